theorem dX5_bid_23 : decode cX5_bid 23 = .ok (.ireturn, 1) := by decide +kernel
set_option maxRecDepth 20000 in
theorem ggX5_displaced_X5_isLeg : GoodIn wsX5_displaced wsX5_isLeg := goodIn_r _ [8, 9, 10, 7, 11] (by decide +kernel) (by decide +kernel)
set_option maxRecDepth 20000 in
theorem gX5_displaced_X5_isLeg : GoodIn wsX5_displaced (va_wsS RX5 83 yX5_isLeg wsX5_isLeg) := goodIn_app (goodIn_of _ (by decide +kernel)) ggX5_displaced_X5_isLeg
set_option maxRecDepth 20000 in
theorem ggX5_displaced_X5_within : GoodIn wsX5_displaced wsX5_within := goodIn_r _ [11] (by decide +kernel) (by decide +kernel)
set_option maxRecDepth 20000 in
theorem gX5_displaced_X5_within : GoodIn wsX5_displaced (va_wsS RX5 68 yX5_within wsX5_within) := goodIn_app (goodIn_of _ (by decide +kernel)) ggX5_displaced_X5_within
set_option maxRecDepth 20000 in
theorem ggX5_displaced_X5_hasLeft : GoodIn wsX5_displaced wsX5_hasLeft := goodIn_r _ [15, 16, 17, 18, 7, 19, 20, 21, 22, 23, 24, 25, 26, 27, 28, 29, 30, 31, 32, 33, 34, 35, 36, 37, 38, 39, 40, 41, 42, 43, 44, 45, 46, 105, 106, 107, 108, 109, 110, 111, 112, 113, 114, 115, 116, 117, 118, 119, 120, 121, 122, 123] (by decide +kernel) (by decide +kernel)
set_option maxRecDepth 20000 in
theorem gX5_displaced_X5_hasLeft : GoodIn wsX5_displaced (wsV RX5 158 RX5 yX5_hasLeft wsX5_hasLeft) := goodIn_app (goodIn_of _ (by decide +kernel)) ggX5_displaced_X5_hasLeft
set_option maxRecDepth 20000 in
theorem ggX5_displaced_X5_displacement : GoodIn wsX5_displaced wsX5_displacement := goodIn_r _ [50, 51, 52, 53, 7, 54, 55, 56, 57, 58, 59, 60, 61, 62, 63, 64, 65, 66, 67, 68, 69, 70, 71, 72, 73, 74, 75, 76, 77, 78, 79, 80, 21, 22, 23, 81, 82, 83, 84, 85, 86, 16, 17, 18, 19, 20, 24, 25, 26, 27, 28, 29, 30, 31, 32, 33, 34, 35, 36, 37, 38, 39, 40, 41, 42, 43, 44, 45, 46, 9, 10, 11, 87, 88, 89, 90, 91, 92, 93, 94, 95, 96, 97, 98, 99, 100, 101, 102, 103, 104, 105, 106, 107, 108, 109, 110, 111, 112, 113, 114, 115, 116, 117, 118, 124, 125, 126, 127, 128, 129, 130, 131, 132, 133, 134, 135, 136, 137, 138, 119, 120, 121, 122, 123] (by decide +kernel) (by decide +kernel)
set_option maxRecDepth 20000 in
theorem gX5_displaced_X5_displacement : GoodIn wsX5_displaced (wsV RX5 161 RX5 yX5_displacement wsX5_displacement) := goodIn_app (goodIn_of _ (by decide +kernel)) ggX5_displaced_X5_displacement
theorem dX5_displaced_0 : decode cX5_displaced 0 = .ok (.iload_n 1, 1) := by decide +kernel
theorem dX5_displaced_1 : decode cX5_displaced 1 = .ok (.invokestatic 83, 3) := by decide +kernel
theorem dX5_displaced_4 : decode cX5_displaced 4 = .ok (.ifCond .eq 10, 3) := by decide +kernel
theorem dX5_displaced_7 : decode cX5_displaced 7 = .ok (.iload_n 2, 1) := by decide +kernel
theorem dX5_displaced_8 : decode cX5_displaced 8 = .ok (.invokestatic 83, 3) := by decide +kernel
theorem dX5_displaced_11 : decode cX5_displaced 11 = .ok (.ifCond .ne 13, 3) := by decide +kernel
theorem dX5_displaced_14 : decode cX5_displaced 14 = .ok (.new 87, 3) := by decide +kernel
theorem dX5_displaced_17 : decode cX5_displaced 17 = .ok (.dup, 1) := by decide +kernel
theorem dX5_displaced_18 : decode cX5_displaced 18 = .ok (.ldc 89, 2) := by decide +kernel
theorem dX5_displaced_20 : decode cX5_displaced 20 = .ok (.invokespecial 91, 3) := by decide +kernel
theorem dX5_displaced_23 : decode cX5_displaced 23 = .ok (.athrow, 1) := by decide +kernel
theorem dX5_displaced_24 : decode cX5_displaced 24 = .ok (.iload_n 2, 1) := by decide +kernel
theorem dX5_displaced_25 : decode cX5_displaced 25 = .ok (.iload_n 1, 1) := by decide +kernel
theorem dX5_displaced_26 : decode cX5_displaced 26 = .ok (.if_icmp .lt 13, 3) := by decide +kernel
theorem dX5_displaced_29 : decode cX5_displaced 29 = .ok (.iload_n 3, 1) := by decide +kernel
theorem dX5_displaced_30 : decode cX5_displaced 30 = .ok (.iconst 1, 1) := by decide +kernel
theorem dX5_displaced_31 : decode cX5_displaced 31 = .ok (.bipush 10, 2) := by decide +kernel
theorem dX5_displaced_33 : decode cX5_displaced 33 = .ok (.invokestatic 68, 3) := by decide +kernel
theorem dX5_displaced_36 : decode cX5_displaced 36 = .ok (.ifCond .ne 13, 3) := by decide +kernel
theorem dX5_displaced_39 : decode cX5_displaced 39 = .ok (.new 72, 3) := by decide +kernel
theorem dX5_displaced_42 : decode cX5_displaced 42 = .ok (.dup, 1) := by decide +kernel
theorem dX5_displaced_43 : decode cX5_displaced 43 = .ok (.ldc 218, 2) := by decide +kernel
theorem dX5_displaced_45 : decode cX5_displaced 45 = .ok (.invokespecial 76, 3) := by decide +kernel
theorem dX5_displaced_48 : decode cX5_displaced 48 = .ok (.athrow, 1) := by decide +kernel
theorem dX5_displaced_49 : decode cX5_displaced 49 = .ok (.aload_n 0, 1) := by decide +kernel
theorem dX5_displaced_50 : decode cX5_displaced 50 = .ok (.iload_n 1, 1) := by decide +kernel
theorem dX5_displaced_51 : decode cX5_displaced 51 = .ok (.iload_n 2, 1) := by decide +kernel
theorem dX5_displaced_52 : decode cX5_displaced 52 = .ok (.iload_n 3, 1) := by decide +kernel
theorem dX5_displaced_53 : decode cX5_displaced 53 = .ok (.invokevirtual 158, 3) := by decide +kernel
theorem dX5_displaced_56 : decode cX5_displaced 56 = .ok (.ifCond .eq 13, 3) := by decide +kernel
theorem dX5_displaced_59 : decode cX5_displaced 59 = .ok (.aload_n 0, 1) := by decide +kernel
theorem dX5_displaced_60 : decode cX5_displaced 60 = .ok (.iload_n 1, 1) := by decide +kernel
theorem dX5_displaced_61 : decode cX5_displaced 61 = .ok (.iload_n 2, 1) := by decide +kernel
theorem dX5_displaced_62 : decode cX5_displaced 62 = .ok (.iload_n 3, 1) := by decide +kernel
theorem dX5_displaced_63 : decode cX5_displaced 63 = .ok (.invokevirtual 161, 3) := by decide +kernel
theorem dX5_displaced_66 : decode cX5_displaced 66 = .ok (.goto 4, 3) := by decide +kernel
theorem dX5_displaced_69 : decode cX5_displaced 69 = .ok (.iconst (-1), 1) := by decide +kernel
theorem dX5_displaced_70 : decode cX5_displaced 70 = .ok (.ireturn, 1) := by decide +kernel
set_option maxRecDepth 20000 in
theorem ggX5_expected_X5_productAt : GoodIn wsX5_expected wsX5_productAt := goodIn_r _ [7, 8, 16, 17, 18, 19, 20, 21, 22, 23, 24, 25, 26, 27, 28, 29] (by decide +kernel) (by decide +kernel)
set_option maxRecDepth 20000 in
theorem gX5_expected_X5_productAt : GoodIn wsX5_expected (wsV RX5 109 RX5 yX5_productAt wsX5_productAt) := goodIn_app (goodIn_of _ (by decide +kernel)) ggX5_expected_X5_productAt
theorem dX5_expected_0 : decode cX5_expected 0 = .ok (.aload_n 0, 1) := by decide +kernel
theorem dX5_expected_1 : decode cX5_expected 1 = .ok (.iload_n 1, 1) := by decide +kernel
theorem dX5_expected_2 : decode cX5_expected 2 = .ok (.invokevirtual 109, 3) := by decide +kernel
theorem dX5_expected_5 : decode cX5_expected 5 = .ok (.astore_n 2, 1) := by decide +kernel
theorem dX5_expected_6 : decode cX5_expected 6 = .ok (.aload_n 2, 1) := by decide +kernel
theorem dX5_expected_7 : decode cX5_expected 7 = .ok (.ifnonnull 13, 3) := by decide +kernel
theorem dX5_expected_10 : decode cX5_expected 10 = .ok (.new 87, 3) := by decide +kernel
theorem dX5_expected_13 : decode cX5_expected 13 = .ok (.dup, 1) := by decide +kernel
theorem dX5_expected_14 : decode cX5_expected 14 = .ok (.ldc 113, 2) := by decide +kernel
theorem dX5_expected_16 : decode cX5_expected 16 = .ok (.invokespecial 91, 3) := by decide +kernel
theorem dX5_expected_19 : decode cX5_expected 19 = .ok (.athrow, 1) := by decide +kernel
theorem dX5_expected_20 : decode cX5_expected 20 = .ok (.aload_n 2, 1) := by decide +kernel
theorem dX5_expected_21 : decode cX5_expected 21 = .ok (.getfield 117, 3) := by decide +kernel
theorem dX5_expected_24 : decode cX5_expected 24 = .ok (.ireturn, 1) := by decide +kernel
set_option maxRecDepth 20000 in
theorem ggX5_average_X5_productAt : GoodIn wsX5_average wsX5_productAt := goodIn_r _ [8, 9, 10, 11, 12, 13, 14, 15, 16, 17, 18, 19, 20, 21, 22, 23] (by decide +kernel) (by decide +kernel)
set_option maxRecDepth 20000 in
theorem gX5_average_X5_productAt : GoodIn wsX5_average (wsV RX5 109 RX5 yX5_productAt wsX5_productAt) := goodIn_app (goodIn_of _ (by decide +kernel)) ggX5_average_X5_productAt
theorem dX5_average_0 : decode cX5_average 0 = .ok (.aload_n 0, 1) := by decide +kernel
theorem dX5_average_1 : decode cX5_average 1 = .ok (.iload_n 1, 1) := by decide +kernel
theorem dX5_average_2 : decode cX5_average 2 = .ok (.invokevirtual 109, 3) := by decide +kernel
theorem dX5_average_5 : decode cX5_average 5 = .ok (.astore_n 2, 1) := by decide +kernel
theorem dX5_average_6 : decode cX5_average 6 = .ok (.aload_n 2, 1) := by decide +kernel
theorem dX5_average_7 : decode cX5_average 7 = .ok (.ifnonnull 13, 3) := by decide +kernel
theorem dX5_average_10 : decode cX5_average 10 = .ok (.new 87, 3) := by decide +kernel
theorem dX5_average_13 : decode cX5_average 13 = .ok (.dup, 1) := by decide +kernel
theorem dX5_average_14 : decode cX5_average 14 = .ok (.ldc 113, 2) := by decide +kernel
theorem dX5_average_16 : decode cX5_average 16 = .ok (.invokespecial 91, 3) := by decide +kernel
theorem dX5_average_19 : decode cX5_average 19 = .ok (.athrow, 1) := by decide +kernel
theorem dX5_average_20 : decode cX5_average 20 = .ok (.aload_n 0, 1) := by decide +kernel
theorem dX5_average_21 : decode cX5_average 21 = .ok (.getfield 49, 3) := by decide +kernel
theorem dX5_average_24 : decode cX5_average 24 = .ok (.ifCond .gt 5, 3) := by decide +kernel
theorem dX5_average_27 : decode cX5_average 27 = .ok (.fconst 0, 1) := by decide +kernel
theorem dX5_average_28 : decode cX5_average 28 = .ok (.freturn, 1) := by decide +kernel
theorem dX5_average_29 : decode cX5_average 29 = .ok (.aload_n 2, 1) := by decide +kernel
theorem dX5_average_30 : decode cX5_average 30 = .ok (.getfield 220, 3) := by decide +kernel
theorem dX5_average_33 : decode cX5_average 33 = .ok (.i2f, 1) := by decide +kernel
theorem dX5_average_34 : decode cX5_average 34 = .ok (.aload_n 0, 1) := by decide +kernel
theorem dX5_average_35 : decode cX5_average 35 = .ok (.getfield 49, 3) := by decide +kernel
theorem dX5_average_38 : decode cX5_average 38 = .ok (.i2f, 1) := by decide +kernel
theorem dX5_average_39 : decode cX5_average 39 = .ok (.fdiv, 1) := by decide +kernel
theorem dX5_average_40 : decode cX5_average 40 = .ok (.freturn, 1) := by decide +kernel
set_option maxRecDepth 20000 in
theorem ggX5_asked_X5_productAt : GoodIn wsX5_asked wsX5_productAt := goodIn_r _ [7, 8, 16, 17, 18, 19, 20, 21, 22, 23, 24, 25, 26, 27, 28, 29] (by decide +kernel) (by decide +kernel)
set_option maxRecDepth 20000 in
theorem gX5_asked_X5_productAt : GoodIn wsX5_asked (wsV RX5 109 RX5 yX5_productAt wsX5_productAt) := goodIn_app (goodIn_of _ (by decide +kernel)) ggX5_asked_X5_productAt
theorem dX5_asked_0 : decode cX5_asked 0 = .ok (.aload_n 0, 1) := by decide +kernel
theorem dX5_asked_1 : decode cX5_asked 1 = .ok (.iload_n 1, 1) := by decide +kernel
theorem dX5_asked_2 : decode cX5_asked 2 = .ok (.invokevirtual 109, 3) := by decide +kernel
theorem dX5_asked_5 : decode cX5_asked 5 = .ok (.astore_n 2, 1) := by decide +kernel
theorem dX5_asked_6 : decode cX5_asked 6 = .ok (.aload_n 2, 1) := by decide +kernel
theorem dX5_asked_7 : decode cX5_asked 7 = .ok (.ifnonnull 13, 3) := by decide +kernel
theorem dX5_asked_10 : decode cX5_asked 10 = .ok (.new 87, 3) := by decide +kernel
theorem dX5_asked_13 : decode cX5_asked 13 = .ok (.dup, 1) := by decide +kernel
theorem dX5_asked_14 : decode cX5_asked 14 = .ok (.ldc 113, 2) := by decide +kernel
theorem dX5_asked_16 : decode cX5_asked 16 = .ok (.invokespecial 91, 3) := by decide +kernel
theorem dX5_asked_19 : decode cX5_asked 19 = .ok (.athrow, 1) := by decide +kernel
theorem dX5_asked_20 : decode cX5_asked 20 = .ok (.aload_n 2, 1) := by decide +kernel
theorem dX5_asked_21 : decode cX5_asked 21 = .ok (.getfield 124, 3) := by decide +kernel
theorem dX5_asked_24 : decode cX5_asked 24 = .ok (.ireturn, 1) := by decide +kernel
theorem dX5_refused_0 : decode cX5_refused 0 = .ok (.iload_n 1, 1) := by decide +kernel
theorem dX5_refused_1 : decode cX5_refused 1 = .ok (.tableswitch 42 (-3) (-1) #[37, 32, 27], 27) := by decide +kernel
theorem dX5_refused_28 : decode cX5_refused 28 = .ok (.aload_n 0, 1) := by decide +kernel
theorem dX5_refused_29 : decode cX5_refused 29 = .ok (.getfield 55, 3) := by decide +kernel
theorem dX5_refused_32 : decode cX5_refused 32 = .ok (.ireturn, 1) := by decide +kernel
theorem dX5_refused_33 : decode cX5_refused 33 = .ok (.aload_n 0, 1) := by decide +kernel
theorem dX5_refused_34 : decode cX5_refused 34 = .ok (.getfield 58, 3) := by decide +kernel
theorem dX5_refused_37 : decode cX5_refused 37 = .ok (.ireturn, 1) := by decide +kernel
theorem dX5_refused_38 : decode cX5_refused 38 = .ok (.aload_n 0, 1) := by decide +kernel
theorem dX5_refused_39 : decode cX5_refused 39 = .ok (.getfield 61, 3) := by decide +kernel
theorem dX5_refused_42 : decode cX5_refused 42 = .ok (.ireturn, 1) := by decide +kernel
theorem dX5_refused_43 : decode cX5_refused 43 = .ok (.new 72, 3) := by decide +kernel
theorem dX5_refused_46 : decode cX5_refused 46 = .ok (.dup, 1) := by decide +kernel
theorem dX5_refused_47 : decode cX5_refused 47 = .ok (.ldc 223, 2) := by decide +kernel
theorem dX5_refused_49 : decode cX5_refused 49 = .ok (.invokespecial 76, 3) := by decide +kernel
theorem dX5_refused_52 : decode cX5_refused 52 = .ok (.athrow, 1) := by decide +kernel
set_option maxRecDepth 20000 in
theorem ggX5_revenue_X5_faresOfToday : GoodIn wsX5_revenue wsX5_faresOfToday := goodIn_r _ [5, 6, 7, 8, 9, 4, 10, 11, 12, 13, 14, 15, 16, 17, 18, 19, 20, 21, 22, 23, 24, 25, 26, 27, 28, 29, 30] (by decide +kernel) (by decide +kernel)
set_option maxRecDepth 20000 in
theorem gX5_revenue_X5_faresOfToday : GoodIn wsX5_revenue (wsV RX5 184 RX5 yX5_faresOfToday wsX5_faresOfToday) := goodIn_app (goodIn_of _ (by decide +kernel)) ggX5_revenue_X5_faresOfToday
theorem dX5_revenue_0 : decode cX5_revenue 0 = .ok (.aload_n 0, 1) := by decide +kernel
theorem dX5_revenue_1 : decode cX5_revenue 1 = .ok (.invokevirtual 184, 3) := by decide +kernel
theorem dX5_revenue_4 : decode cX5_revenue 4 = .ok (.ireturn, 1) := by decide +kernel
theorem dX5_earned_0 : decode cX5_earned 0 = .ok (.aload_n 0, 1) := by decide +kernel
theorem dX5_earned_1 : decode cX5_earned 1 = .ok (.getfield 64, 3) := by decide +kernel
theorem dX5_earned_4 : decode cX5_earned 4 = .ok (.lreturn, 1) := by decide +kernel
theorem dX5_within_0 : decode cX5_within 0 = .ok (.iload_n 0, 1) := by decide +kernel
theorem dX5_within_1 : decode cX5_within 1 = .ok (.iload_n 1, 1) := by decide +kernel
theorem dX5_within_2 : decode cX5_within 2 = .ok (.if_icmp .lt 12, 3) := by decide +kernel
theorem dX5_within_5 : decode cX5_within 5 = .ok (.iload_n 0, 1) := by decide +kernel
theorem dX5_within_6 : decode cX5_within 6 = .ok (.iload_n 2, 1) := by decide +kernel
theorem dX5_within_7 : decode cX5_within 7 = .ok (.if_icmp .gt 7, 3) := by decide +kernel
theorem dX5_within_10 : decode cX5_within 10 = .ok (.iconst 1, 1) := by decide +kernel
theorem dX5_within_11 : decode cX5_within 11 = .ok (.goto 4, 3) := by decide +kernel
theorem dX5_within_14 : decode cX5_within 14 = .ok (.iconst 0, 1) := by decide +kernel
theorem dX5_within_15 : decode cX5_within 15 = .ok (.ireturn, 1) := by decide +kernel
set_option maxRecDepth 20000 in
theorem ggX5_isLeg_X5_within : GoodIn wsX5_isLeg wsX5_within := goodIn_r _ [4] (by decide +kernel) (by decide +kernel)
set_option maxRecDepth 20000 in
theorem gX5_isLeg_X5_within : GoodIn wsX5_isLeg (va_wsS RX5 68 yX5_within wsX5_within) := goodIn_app (goodIn_of _ (by decide +kernel)) ggX5_isLeg_X5_within
theorem dX5_isLeg_0 : decode cX5_isLeg 0 = .ok (.iload_n 0, 1) := by decide +kernel
theorem dX5_isLeg_1 : decode cX5_isLeg 1 = .ok (.iconst 0, 1) := by decide +kernel
theorem dX5_isLeg_2 : decode cX5_isLeg 2 = .ok (.iconst 2, 1) := by decide +kernel
theorem dX5_isLeg_3 : decode cX5_isLeg 3 = .ok (.invokestatic 68, 3) := by decide +kernel
theorem dX5_isLeg_6 : decode cX5_isLeg 6 = .ok (.ireturn, 1) := by decide +kernel
theorem dX5_putSeats_0 : decode cX5_putSeats 0 = .ok (.iload_n 1, 1) := by decide +kernel
theorem dX5_putSeats_1 : decode cX5_putSeats 1 = .ok (.ifCond .lt 19, 3) := by decide +kernel
theorem dX5_putSeats_4 : decode cX5_putSeats 4 = .ok (.iload_n 1, 1) := by decide +kernel
theorem dX5_putSeats_5 : decode cX5_putSeats 5 = .ok (.aload_n 0, 1) := by decide +kernel
theorem dX5_putSeats_6 : decode cX5_putSeats 6 = .ok (.getfield 9, 3) := by decide +kernel
theorem dX5_putSeats_9 : decode cX5_putSeats 9 = .ok (.arraylength, 1) := by decide +kernel
theorem dX5_putSeats_10 : decode cX5_putSeats 10 = .ok (.if_icmp .ge 10, 3) := by decide +kernel
theorem dX5_putSeats_13 : decode cX5_putSeats 13 = .ok (.aload_n 0, 1) := by decide +kernel
theorem dX5_putSeats_14 : decode cX5_putSeats 14 = .ok (.getfield 9, 3) := by decide +kernel
theorem dX5_putSeats_17 : decode cX5_putSeats 17 = .ok (.iload_n 1, 1) := by decide +kernel
theorem dX5_putSeats_18 : decode cX5_putSeats 18 = .ok (.iload_n 2, 1) := by decide +kernel
theorem dX5_putSeats_19 : decode cX5_putSeats 19 = .ok (.iastore, 1) := by decide +kernel
theorem dX5_putSeats_20 : decode cX5_putSeats 20 = .ok (.return_, 1) := by decide +kernel
theorem dX5_seatsOf_0 : decode cX5_seatsOf 0 = .ok (.iload_n 1, 1) := by decide +kernel
theorem dX5_seatsOf_1 : decode cX5_seatsOf 1 = .ok (.ifCond .lt 21, 3) := by decide +kernel
theorem dX5_seatsOf_4 : decode cX5_seatsOf 4 = .ok (.iload_n 1, 1) := by decide +kernel
theorem dX5_seatsOf_5 : decode cX5_seatsOf 5 = .ok (.aload_n 0, 1) := by decide +kernel
theorem dX5_seatsOf_6 : decode cX5_seatsOf 6 = .ok (.getfield 9, 3) := by decide +kernel
theorem dX5_seatsOf_9 : decode cX5_seatsOf 9 = .ok (.arraylength, 1) := by decide +kernel
theorem dX5_seatsOf_10 : decode cX5_seatsOf 10 = .ok (.if_icmp .ge 12, 3) := by decide +kernel
theorem dX5_seatsOf_13 : decode cX5_seatsOf 13 = .ok (.aload_n 0, 1) := by decide +kernel
theorem dX5_seatsOf_14 : decode cX5_seatsOf 14 = .ok (.getfield 9, 3) := by decide +kernel
theorem dX5_seatsOf_17 : decode cX5_seatsOf 17 = .ok (.iload_n 1, 1) := by decide +kernel
theorem dX5_seatsOf_18 : decode cX5_seatsOf 18 = .ok (.iaload, 1) := by decide +kernel
theorem dX5_seatsOf_19 : decode cX5_seatsOf 19 = .ok (.goto 4, 3) := by decide +kernel
theorem dX5_seatsOf_22 : decode cX5_seatsOf 22 = .ok (.iconst 0, 1) := by decide +kernel
theorem dX5_seatsOf_23 : decode cX5_seatsOf 23 = .ok (.ireturn, 1) := by decide +kernel
set_option maxRecDepth 20000 in
theorem ggX5_authorisedOn_X5_seatsOf : GoodIn wsX5_authorisedOn wsX5_seatsOf := goodIn_r _ [6, 7, 8, 9, 10, 11, 12, 13, 14, 15, 16, 17, 18, 19, 20, 21] (by decide +kernel) (by decide +kernel)
set_option maxRecDepth 20000 in
theorem gX5_authorisedOn_X5_seatsOf : GoodIn wsX5_authorisedOn (wsV RX5 225 RX5 yX5_seatsOf wsX5_seatsOf) := goodIn_app (goodIn_of _ (by decide +kernel)) ggX5_authorisedOn_X5_seatsOf
theorem dX5_authorisedOn_0 : decode cX5_authorisedOn 0 = .ok (.aload_n 0, 1) := by decide +kernel
theorem dX5_authorisedOn_1 : decode cX5_authorisedOn 1 = .ok (.iload_n 1, 1) := by decide +kernel
theorem dX5_authorisedOn_2 : decode cX5_authorisedOn 2 = .ok (.invokevirtual 225, 3) := by decide +kernel
theorem dX5_authorisedOn_5 : decode cX5_authorisedOn 5 = .ok (.istore_n 2, 1) := by decide +kernel
theorem dX5_authorisedOn_6 : decode cX5_authorisedOn 6 = .ok (.iload_n 2, 1) := by decide +kernel
theorem dX5_authorisedOn_7 : decode cX5_authorisedOn 7 = .ok (.iload_n 2, 1) := by decide +kernel
theorem dX5_authorisedOn_8 : decode cX5_authorisedOn 8 = .ok (.bipush 100, 2) := by decide +kernel
theorem dX5_authorisedOn_10 : decode cX5_authorisedOn 10 = .ok (.aload_n 0, 1) := by decide +kernel
theorem dX5_authorisedOn_11 : decode cX5_authorisedOn 11 = .ok (.getfield 52, 3) := by decide +kernel
theorem dX5_authorisedOn_14 : decode cX5_authorisedOn 14 = .ok (.isub, 1) := by decide +kernel
theorem dX5_authorisedOn_15 : decode cX5_authorisedOn 15 = .ok (.imul, 1) := by decide +kernel
theorem dX5_authorisedOn_16 : decode cX5_authorisedOn 16 = .ok (.bipush 100, 2) := by decide +kernel
theorem dX5_authorisedOn_18 : decode cX5_authorisedOn 18 = .ok (.idiv, 1) := by decide +kernel
theorem dX5_authorisedOn_19 : decode cX5_authorisedOn 19 = .ok (.iadd, 1) := by decide +kernel
theorem dX5_authorisedOn_20 : decode cX5_authorisedOn 20 = .ok (.ireturn, 1) := by decide +kernel
set_option maxRecDepth 20000 in
theorem ggX5_bookedOn_X5_bookingAt : GoodIn wsX5_bookedOn wsX5_bookingAt := goodIn_r _ [6, 1, 7, 16, 17, 18, 19, 20, 21, 22, 23, 24, 25, 26, 27, 28, 29] (by decide +kernel) (by decide +kernel)
set_option maxRecDepth 20000 in
theorem gX5_bookedOn_X5_bookingAt : GoodIn wsX5_bookedOn (wsV RX5 165 RX5 yX5_bookingAt wsX5_bookingAt) := goodIn_app (goodIn_of _ (by decide +kernel)) ggX5_bookedOn_X5_bookingAt
set_option maxRecDepth 20000 in
theorem ggX5_bookedOn_X0_seatsOn : GoodIn wsX5_bookedOn wsX0_seatsOn := goodIn_r _ [11, 12, 13, 14, 15, 30, 31, 32, 33, 34] (by decide +kernel) (by decide +kernel)
set_option maxRecDepth 20000 in
theorem gX5_bookedOn_X0_seatsOn_n228 : GoodIn wsX5_bookedOn (wsX0_seatsOn) := ggX5_bookedOn_X0_seatsOn
theorem dX5_bookedOn_0 : decode cX5_bookedOn 0 = .ok (.iconst 0, 1) := by decide +kernel
theorem dX5_bookedOn_1 : decode cX5_bookedOn 1 = .ok (.istore_n 2, 1) := by decide +kernel
theorem dX5_bookedOn_2 : decode cX5_bookedOn 2 = .ok (.iconst 0, 1) := by decide +kernel
theorem dX5_bookedOn_3 : decode cX5_bookedOn 3 = .ok (.istore_n 3, 1) := by decide +kernel
theorem dX5_bookedOn_4 : decode cX5_bookedOn 4 = .ok (.iload_n 3, 1) := by decide +kernel
theorem dX5_bookedOn_5 : decode cX5_bookedOn 5 = .ok (.aload_n 0, 1) := by decide +kernel
theorem dX5_bookedOn_6 : decode cX5_bookedOn 6 = .ok (.getfield 46, 3) := by decide +kernel
theorem dX5_bookedOn_9 : decode cX5_bookedOn 9 = .ok (.if_icmp .ge 30, 3) := by decide +kernel
theorem dX5_bookedOn_12 : decode cX5_bookedOn 12 = .ok (.aload_n 0, 1) := by decide +kernel
theorem dX5_bookedOn_13 : decode cX5_bookedOn 13 = .ok (.iload_n 3, 1) := by decide +kernel
theorem dX5_bookedOn_14 : decode cX5_bookedOn 14 = .ok (.invokevirtual 165, 3) := by decide +kernel
theorem dX5_bookedOn_17 : decode cX5_bookedOn 17 = .ok (.astore 4, 2) := by decide +kernel
theorem dX5_bookedOn_19 : decode cX5_bookedOn 19 = .ok (.aload 4, 2) := by decide +kernel
theorem dX5_bookedOn_21 : decode cX5_bookedOn 21 = .ok (.ifnull 12, 3) := by decide +kernel
theorem dX5_bookedOn_24 : decode cX5_bookedOn 24 = .ok (.iload_n 2, 1) := by decide +kernel
theorem dX5_bookedOn_25 : decode cX5_bookedOn 25 = .ok (.aload 4, 2) := by decide +kernel
theorem dX5_bookedOn_27 : decode cX5_bookedOn 27 = .ok (.iload_n 1, 1) := by decide +kernel
theorem dX5_bookedOn_28 : decode cX5_bookedOn 28 = .ok (.invokevirtual 228, 3) := by decide +kernel
theorem dX5_bookedOn_31 : decode cX5_bookedOn 31 = .ok (.iadd, 1) := by decide +kernel
theorem dX5_bookedOn_32 : decode cX5_bookedOn 32 = .ok (.istore_n 2, 1) := by decide +kernel
theorem dX5_bookedOn_33 : decode cX5_bookedOn 33 = .ok (.iinc 3 1, 3) := by decide +kernel
theorem dX5_bookedOn_36 : decode cX5_bookedOn 36 = .ok (.goto (-32), 3) := by decide +kernel
theorem dX5_bookedOn_39 : decode cX5_bookedOn 39 = .ok (.iload_n 2, 1) := by decide +kernel
theorem dX5_bookedOn_40 : decode cX5_bookedOn 40 = .ok (.ireturn, 1) := by decide +kernel
set_option maxRecDepth 20000 in
theorem ggX5_leftOn_X5_seatsOf : GoodIn wsX5_leftOn wsX5_seatsOf := goodIn_r _ [9, 10, 29, 30, 31, 32, 33, 34, 35, 36, 37, 38, 39, 40, 41, 42] (by decide +kernel) (by decide +kernel)
set_option maxRecDepth 20000 in
theorem gX5_leftOn_X5_seatsOf : GoodIn wsX5_leftOn (wsV RX5 225 RX5 yX5_seatsOf wsX5_seatsOf) := goodIn_app (goodIn_of _ (by decide +kernel)) ggX5_leftOn_X5_seatsOf
set_option maxRecDepth 20000 in
theorem ggX5_leftOn_X5_bookedOn : GoodIn wsX5_leftOn wsX5_bookedOn := goodIn_r _ [14, 15, 16, 17, 18, 8, 19, 20, 21, 22, 23, 24, 25, 26, 27, 28, 29, 30, 31, 32, 33, 34, 35, 36, 37, 38, 39, 40, 41, 42, 43, 44, 45, 46, 47] (by decide +kernel) (by decide +kernel)
set_option maxRecDepth 20000 in
theorem gX5_leftOn_X5_bookedOn : GoodIn wsX5_leftOn (wsV RX5 191 RX5 yX5_bookedOn wsX5_bookedOn) := goodIn_app (goodIn_of _ (by decide +kernel)) ggX5_leftOn_X5_bookedOn
theorem dX5_leftOn_0 : decode cX5_leftOn 0 = .ok (.iconst 0, 1) := by decide +kernel
theorem dX5_leftOn_1 : decode cX5_leftOn 1 = .ok (.aload_n 0, 1) := by decide +kernel
theorem dX5_leftOn_2 : decode cX5_leftOn 2 = .ok (.iload_n 1, 1) := by decide +kernel
theorem dX5_leftOn_3 : decode cX5_leftOn 3 = .ok (.invokevirtual 225, 3) := by decide +kernel
theorem dX5_leftOn_6 : decode cX5_leftOn 6 = .ok (.aload_n 0, 1) := by decide +kernel
theorem dX5_leftOn_7 : decode cX5_leftOn 7 = .ok (.iload_n 1, 1) := by decide +kernel
theorem dX5_leftOn_8 : decode cX5_leftOn 8 = .ok (.invokevirtual 191, 3) := by decide +kernel
theorem dX5_leftOn_11 : decode cX5_leftOn 11 = .ok (.isub, 1) := by decide +kernel
theorem dX5_leftOn_12 : decode cX5_leftOn 12 = .ok (.invokestatic 231, 3) := by decide +kernel
theorem dX5_leftOn_15 : decode cX5_leftOn 15 = .ok (.ireturn, 1) := by decide +kernel
set_option maxRecDepth 20000 in
theorem ggX5_hasLeft_X5_leftOn : GoodIn wsX5_hasLeft wsX5_leftOn := goodIn_r _ [5, 6, 7, 8, 9, 10, 11, 12, 4, 13, 14, 15, 16, 17, 18, 19, 20, 21, 22, 23, 24, 25, 26, 27, 28, 29, 30, 31, 32, 33, 34, 35, 36, 37, 38, 39, 40, 41, 42, 43, 44, 45, 46, 47, 48, 49, 50, 51] (by decide +kernel) (by decide +kernel)
set_option maxRecDepth 20000 in
theorem gX5_hasLeft_X5_leftOn : GoodIn wsX5_hasLeft (wsV RX5 205 RX5 yX5_leftOn wsX5_leftOn) := goodIn_app (goodIn_of _ (by decide +kernel)) ggX5_hasLeft_X5_leftOn
theorem dX5_hasLeft_0 : decode cX5_hasLeft 0 = .ok (.iload_n 1, 1) := by decide +kernel
theorem dX5_hasLeft_1 : decode cX5_hasLeft 1 = .ok (.istore 4, 2) := by decide +kernel
theorem dX5_hasLeft_3 : decode cX5_hasLeft 3 = .ok (.iload 4, 2) := by decide +kernel
theorem dX5_hasLeft_5 : decode cX5_hasLeft 5 = .ok (.iload_n 2, 1) := by decide +kernel
theorem dX5_hasLeft_6 : decode cX5_hasLeft 6 = .ok (.if_icmp .gt 21, 3) := by decide +kernel
theorem dX5_hasLeft_9 : decode cX5_hasLeft 9 = .ok (.aload_n 0, 1) := by decide +kernel
theorem dX5_hasLeft_10 : decode cX5_hasLeft 10 = .ok (.iload 4, 2) := by decide +kernel
theorem dX5_hasLeft_12 : decode cX5_hasLeft 12 = .ok (.invokevirtual 205, 3) := by decide +kernel
theorem dX5_hasLeft_15 : decode cX5_hasLeft 15 = .ok (.iload_n 3, 1) := by decide +kernel
theorem dX5_hasLeft_16 : decode cX5_hasLeft 16 = .ok (.if_icmp .ge 5, 3) := by decide +kernel
theorem dX5_hasLeft_19 : decode cX5_hasLeft 19 = .ok (.iconst 0, 1) := by decide +kernel
theorem dX5_hasLeft_20 : decode cX5_hasLeft 20 = .ok (.ireturn, 1) := by decide +kernel
theorem dX5_hasLeft_21 : decode cX5_hasLeft 21 = .ok (.iinc 4 1, 3) := by decide +kernel
theorem dX5_hasLeft_24 : decode cX5_hasLeft 24 = .ok (.goto (-21), 3) := by decide +kernel
theorem dX5_hasLeft_27 : decode cX5_hasLeft 27 = .ok (.iconst 1, 1) := by decide +kernel
theorem dX5_hasLeft_28 : decode cX5_hasLeft 28 = .ok (.ireturn, 1) := by decide +kernel
set_option maxRecDepth 20000 in
theorem ggX5_deniedOn_X5_bookedOn : GoodIn wsX5_deniedOn wsX5_bookedOn := goodIn_r _ [9, 10, 11, 12, 13, 8, 14, 15, 16, 17, 18, 19, 20, 21, 22, 23, 29, 30, 31, 32, 33, 34, 35, 36, 37, 38, 39, 40, 41, 42, 43, 44, 45, 46, 47] (by decide +kernel) (by decide +kernel)
set_option maxRecDepth 20000 in
theorem gX5_deniedOn_X5_bookedOn : GoodIn wsX5_deniedOn (wsV RX5 191 RX5 yX5_bookedOn wsX5_bookedOn) := goodIn_app (goodIn_of _ (by decide +kernel)) ggX5_deniedOn_X5_bookedOn
set_option maxRecDepth 20000 in
theorem ggX5_deniedOn_X5_seatsOf : GoodIn wsX5_deniedOn wsX5_seatsOf := goodIn_r _ [27, 28, 29, 30, 31, 32, 33, 34, 35, 36, 37, 38, 39, 40, 41, 42] (by decide +kernel) (by decide +kernel)
set_option maxRecDepth 20000 in
theorem gX5_deniedOn_X5_seatsOf : GoodIn wsX5_deniedOn (wsV RX5 225 RX5 yX5_seatsOf wsX5_seatsOf) := goodIn_app (goodIn_of _ (by decide +kernel)) ggX5_deniedOn_X5_seatsOf
theorem dX5_deniedOn_0 : decode cX5_deniedOn 0 = .ok (.aload_n 0, 1) := by decide +kernel
theorem dX5_deniedOn_1 : decode cX5_deniedOn 1 = .ok (.iload_n 1, 1) := by decide +kernel
theorem dX5_deniedOn_2 : decode cX5_deniedOn 2 = .ok (.invokevirtual 191, 3) := by decide +kernel
theorem dX5_deniedOn_5 : decode cX5_deniedOn 5 = .ok (.iload_n 2, 1) := by decide +kernel
theorem dX5_deniedOn_6 : decode cX5_deniedOn 6 = .ok (.imul, 1) := by decide +kernel
theorem dX5_deniedOn_7 : decode cX5_deniedOn 7 = .ok (.bipush 100, 2) := by decide +kernel
theorem dX5_deniedOn_9 : decode cX5_deniedOn 9 = .ok (.iadd, 1) := by decide +kernel
theorem dX5_deniedOn_10 : decode cX5_deniedOn 10 = .ok (.iconst 1, 1) := by decide +kernel
theorem dX5_deniedOn_11 : decode cX5_deniedOn 11 = .ok (.isub, 1) := by decide +kernel
theorem dX5_deniedOn_12 : decode cX5_deniedOn 12 = .ok (.bipush 100, 2) := by decide +kernel
theorem dX5_deniedOn_14 : decode cX5_deniedOn 14 = .ok (.idiv, 1) := by decide +kernel
theorem dX5_deniedOn_15 : decode cX5_deniedOn 15 = .ok (.istore_n 3, 1) := by decide +kernel
theorem dX5_deniedOn_16 : decode cX5_deniedOn 16 = .ok (.iconst 0, 1) := by decide +kernel
theorem dX5_deniedOn_17 : decode cX5_deniedOn 17 = .ok (.iload_n 3, 1) := by decide +kernel
theorem dX5_deniedOn_18 : decode cX5_deniedOn 18 = .ok (.aload_n 0, 1) := by decide +kernel
theorem dX5_deniedOn_19 : decode cX5_deniedOn 19 = .ok (.iload_n 1, 1) := by decide +kernel
theorem dX5_deniedOn_20 : decode cX5_deniedOn 20 = .ok (.invokevirtual 225, 3) := by decide +kernel
theorem dX5_deniedOn_23 : decode cX5_deniedOn 23 = .ok (.isub, 1) := by decide +kernel
theorem dX5_deniedOn_24 : decode cX5_deniedOn 24 = .ok (.invokestatic 231, 3) := by decide +kernel
theorem dX5_deniedOn_27 : decode cX5_deniedOn 27 = .ok (.ireturn, 1) := by decide +kernel
theorem dX5_productAt_0 : decode cX5_productAt 0 = .ok (.iload_n 1, 1) := by decide +kernel
theorem dX5_productAt_1 : decode cX5_productAt 1 = .ok (.ifCond .lt 21, 3) := by decide +kernel
theorem dX5_productAt_4 : decode cX5_productAt 4 = .ok (.iload_n 1, 1) := by decide +kernel
theorem dX5_productAt_5 : decode cX5_productAt 5 = .ok (.aload_n 0, 1) := by decide +kernel
theorem dX5_productAt_6 : decode cX5_productAt 6 = .ok (.getfield 15, 3) := by decide +kernel
theorem dX5_productAt_9 : decode cX5_productAt 9 = .ok (.arraylength, 1) := by decide +kernel
theorem dX5_productAt_10 : decode cX5_productAt 10 = .ok (.if_icmp .ge 12, 3) := by decide +kernel
theorem dX5_productAt_13 : decode cX5_productAt 13 = .ok (.aload_n 0, 1) := by decide +kernel
theorem dX5_productAt_14 : decode cX5_productAt 14 = .ok (.getfield 15, 3) := by decide +kernel
theorem dX5_productAt_17 : decode cX5_productAt 17 = .ok (.iload_n 1, 1) := by decide +kernel
theorem dX5_productAt_18 : decode cX5_productAt 18 = .ok (.aaload, 1) := by decide +kernel
theorem dX5_productAt_19 : decode cX5_productAt 19 = .ok (.goto 4, 3) := by decide +kernel
theorem dX5_productAt_22 : decode cX5_productAt 22 = .ok (.aconst_null, 1) := by decide +kernel
theorem dX5_productAt_23 : decode cX5_productAt 23 = .ok (.areturn, 1) := by decide +kernel
theorem dX5_isOffered_0 : decode cX5_isOffered 0 = .ok (.aload_n 0, 1) := by decide +kernel
theorem dX5_isOffered_1 : decode cX5_isOffered 1 = .ok (.getfield 15, 3) := by decide +kernel
theorem dX5_isOffered_4 : decode cX5_isOffered 4 = .ok (.astore 4, 2) := by decide +kernel
theorem dX5_isOffered_6 : decode cX5_isOffered 6 = .ok (.aload 4, 2) := by decide +kernel
theorem dX5_isOffered_8 : decode cX5_isOffered 8 = .ok (.arraylength, 1) := by decide +kernel
theorem dX5_isOffered_9 : decode cX5_isOffered 9 = .ok (.istore 5, 2) := by decide +kernel
theorem dX5_isOffered_11 : decode cX5_isOffered 11 = .ok (.iconst 0, 1) := by decide +kernel
theorem dX5_isOffered_12 : decode cX5_isOffered 12 = .ok (.istore 6, 2) := by decide +kernel
theorem dX5_isOffered_14 : decode cX5_isOffered 14 = .ok (.iload 6, 2) := by decide +kernel
theorem dX5_isOffered_16 : decode cX5_isOffered 16 = .ok (.iload 5, 2) := by decide +kernel
theorem dX5_isOffered_18 : decode cX5_isOffered 18 = .ok (.if_icmp .ge 50, 3) := by decide +kernel
theorem dX5_isOffered_21 : decode cX5_isOffered 21 = .ok (.aload 4, 2) := by decide +kernel
theorem dX5_isOffered_23 : decode cX5_isOffered 23 = .ok (.iload 6, 2) := by decide +kernel
theorem dX5_isOffered_25 : decode cX5_isOffered 25 = .ok (.aaload, 1) := by decide +kernel
theorem dX5_isOffered_26 : decode cX5_isOffered 26 = .ok (.astore 7, 2) := by decide +kernel
theorem dX5_isOffered_28 : decode cX5_isOffered 28 = .ok (.aload 7, 2) := by decide +kernel
theorem dX5_isOffered_30 : decode cX5_isOffered 30 = .ok (.ifnull 32, 3) := by decide +kernel
theorem dX5_isOffered_33 : decode cX5_isOffered 33 = .ok (.aload 7, 2) := by decide +kernel
theorem dX5_isOffered_35 : decode cX5_isOffered 35 = .ok (.getfield 141, 3) := by decide +kernel
theorem dX5_isOffered_38 : decode cX5_isOffered 38 = .ok (.iload_n 1, 1) := by decide +kernel
theorem dX5_isOffered_39 : decode cX5_isOffered 39 = .ok (.if_icmp .ne 23, 3) := by decide +kernel
theorem dX5_isOffered_42 : decode cX5_isOffered 42 = .ok (.aload 7, 2) := by decide +kernel
theorem dX5_isOffered_44 : decode cX5_isOffered 44 = .ok (.getfield 144, 3) := by decide +kernel
theorem dX5_isOffered_47 : decode cX5_isOffered 47 = .ok (.iload_n 2, 1) := by decide +kernel
theorem dX5_isOffered_48 : decode cX5_isOffered 48 = .ok (.if_icmp .ne 14, 3) := by decide +kernel
theorem dX5_isOffered_51 : decode cX5_isOffered 51 = .ok (.aload 7, 2) := by decide +kernel
theorem dX5_isOffered_53 : decode cX5_isOffered 53 = .ok (.getfield 138, 3) := by decide +kernel
theorem dX5_isOffered_56 : decode cX5_isOffered 56 = .ok (.iload_n 3, 1) := by decide +kernel
theorem dX5_isOffered_57 : decode cX5_isOffered 57 = .ok (.if_icmp .ne 5, 3) := by decide +kernel
theorem dX5_isOffered_60 : decode cX5_isOffered 60 = .ok (.iconst 1, 1) := by decide +kernel
theorem dX5_isOffered_61 : decode cX5_isOffered 61 = .ok (.ireturn, 1) := by decide +kernel
theorem dX5_isOffered_62 : decode cX5_isOffered 62 = .ok (.iinc 6 1, 3) := by decide +kernel
theorem dX5_isOffered_65 : decode cX5_isOffered 65 = .ok (.goto (-51), 3) := by decide +kernel
theorem dX5_isOffered_68 : decode cX5_isOffered 68 = .ok (.iconst 0, 1) := by decide +kernel
theorem dX5_isOffered_69 : decode cX5_isOffered 69 = .ok (.ireturn, 1) := by decide +kernel
theorem dX5_offer_0 : decode cX5_offer 0 = .ok (.aload_n 0, 1) := by decide +kernel
theorem dX5_offer_1 : decode cX5_offer 1 = .ok (.getfield 42, 3) := by decide +kernel
theorem dX5_offer_4 : decode cX5_offer 4 = .ok (.istore_n 2, 1) := by decide +kernel
theorem dX5_offer_5 : decode cX5_offer 5 = .ok (.iload_n 2, 1) := by decide +kernel
theorem dX5_offer_6 : decode cX5_offer 6 = .ok (.ifCond .lt 21, 3) := by decide +kernel
theorem dX5_offer_9 : decode cX5_offer 9 = .ok (.iload_n 2, 1) := by decide +kernel
theorem dX5_offer_10 : decode cX5_offer 10 = .ok (.aload_n 0, 1) := by decide +kernel
theorem dX5_offer_11 : decode cX5_offer 11 = .ok (.getfield 15, 3) := by decide +kernel
theorem dX5_offer_14 : decode cX5_offer 14 = .ok (.arraylength, 1) := by decide +kernel
theorem dX5_offer_15 : decode cX5_offer 15 = .ok (.if_icmp .ge 12, 3) := by decide +kernel
theorem dX5_offer_18 : decode cX5_offer 18 = .ok (.iload_n 2, 1) := by decide +kernel
theorem dX5_offer_19 : decode cX5_offer 19 = .ok (.aload_n 0, 1) := by decide +kernel
theorem dX5_offer_20 : decode cX5_offer 20 = .ok (.getfield 19, 3) := by decide +kernel
theorem dX5_offer_23 : decode cX5_offer 23 = .ok (.arraylength, 1) := by decide +kernel
theorem dX5_offer_24 : decode cX5_offer 24 = .ok (.if_icmp .lt 4, 3) := by decide +kernel
theorem dX5_offer_27 : decode cX5_offer 27 = .ok (.return_, 1) := by decide +kernel
theorem dX5_offer_28 : decode cX5_offer 28 = .ok (.aload_n 0, 1) := by decide +kernel
theorem dX5_offer_29 : decode cX5_offer 29 = .ok (.getfield 15, 3) := by decide +kernel
theorem dX5_offer_32 : decode cX5_offer 32 = .ok (.iload_n 2, 1) := by decide +kernel
theorem dX5_offer_33 : decode cX5_offer 33 = .ok (.aload_n 1, 1) := by decide +kernel
theorem dX5_offer_34 : decode cX5_offer 34 = .ok (.aastore, 1) := by decide +kernel
theorem dX5_offer_35 : decode cX5_offer 35 = .ok (.aload_n 0, 1) := by decide +kernel
theorem dX5_offer_36 : decode cX5_offer 36 = .ok (.dup, 1) := by decide +kernel
theorem dX5_offer_37 : decode cX5_offer 37 = .ok (.getfield 42, 3) := by decide +kernel
theorem dX5_offer_40 : decode cX5_offer 40 = .ok (.iconst 1, 1) := by decide +kernel
theorem dX5_offer_41 : decode cX5_offer 41 = .ok (.iadd, 1) := by decide +kernel
theorem dX5_offer_42 : decode cX5_offer 42 = .ok (.putfield 42, 3) := by decide +kernel
theorem dX5_offer_45 : decode cX5_offer 45 = .ok (.iload_n 2, 1) := by decide +kernel
theorem dX5_offer_46 : decode cX5_offer 46 = .ok (.ifCond .le 52, 3) := by decide +kernel
theorem dX5_offer_49 : decode cX5_offer 49 = .ok (.aload_n 0, 1) := by decide +kernel
theorem dX5_offer_50 : decode cX5_offer 50 = .ok (.getfield 19, 3) := by decide +kernel
theorem dX5_offer_53 : decode cX5_offer 53 = .ok (.iload_n 2, 1) := by decide +kernel
theorem dX5_offer_54 : decode cX5_offer 54 = .ok (.iconst 1, 1) := by decide +kernel
theorem dX5_offer_55 : decode cX5_offer 55 = .ok (.isub, 1) := by decide +kernel
theorem dX5_offer_56 : decode cX5_offer 56 = .ok (.aaload, 1) := by decide +kernel
theorem dX5_offer_57 : decode cX5_offer 57 = .ok (.ifnull 41, 3) := by decide +kernel
theorem dX5_offer_60 : decode cX5_offer 60 = .ok (.aload_n 0, 1) := by decide +kernel
theorem dX5_offer_61 : decode cX5_offer 61 = .ok (.getfield 19, 3) := by decide +kernel
theorem dX5_offer_64 : decode cX5_offer 64 = .ok (.iload_n 2, 1) := by decide +kernel
theorem dX5_offer_65 : decode cX5_offer 65 = .ok (.iconst 1, 1) := by decide +kernel
theorem dX5_offer_66 : decode cX5_offer 66 = .ok (.isub, 1) := by decide +kernel
theorem dX5_offer_67 : decode cX5_offer 67 = .ok (.aaload, 1) := by decide +kernel
theorem dX5_offer_68 : decode cX5_offer 68 = .ok (.getfield 138, 3) := by decide +kernel
theorem dX5_offer_71 : decode cX5_offer 71 = .ok (.aload_n 1, 1) := by decide +kernel
theorem dX5_offer_72 : decode cX5_offer 72 = .ok (.getfield 138, 3) := by decide +kernel
theorem dX5_offer_75 : decode cX5_offer 75 = .ok (.if_icmp .ge 23, 3) := by decide +kernel
theorem dX5_offer_78 : decode cX5_offer 78 = .ok (.aload_n 0, 1) := by decide +kernel
theorem dX5_offer_79 : decode cX5_offer 79 = .ok (.getfield 19, 3) := by decide +kernel
theorem dX5_offer_82 : decode cX5_offer 82 = .ok (.iload_n 2, 1) := by decide +kernel
theorem dX5_offer_83 : decode cX5_offer 83 = .ok (.aload_n 0, 1) := by decide +kernel
theorem dX5_offer_84 : decode cX5_offer 84 = .ok (.getfield 19, 3) := by decide +kernel
theorem dX5_offer_87 : decode cX5_offer 87 = .ok (.iload_n 2, 1) := by decide +kernel
theorem dX5_offer_88 : decode cX5_offer 88 = .ok (.iconst 1, 1) := by decide +kernel
theorem dX5_offer_89 : decode cX5_offer 89 = .ok (.isub, 1) := by decide +kernel
theorem dX5_offer_90 : decode cX5_offer 90 = .ok (.aaload, 1) := by decide +kernel
theorem dX5_offer_91 : decode cX5_offer 91 = .ok (.aastore, 1) := by decide +kernel
theorem dX5_offer_92 : decode cX5_offer 92 = .ok (.iinc 2 (-1), 3) := by decide +kernel
theorem dX5_offer_95 : decode cX5_offer 95 = .ok (.goto (-50), 3) := by decide +kernel
theorem dX5_offer_98 : decode cX5_offer 98 = .ok (.aload_n 0, 1) := by decide +kernel
theorem dX5_offer_99 : decode cX5_offer 99 = .ok (.getfield 19, 3) := by decide +kernel
theorem dX5_offer_102 : decode cX5_offer 102 = .ok (.iload_n 2, 1) := by decide +kernel
theorem dX5_offer_103 : decode cX5_offer 103 = .ok (.aload_n 1, 1) := by decide +kernel
theorem dX5_offer_104 : decode cX5_offer 104 = .ok (.aastore, 1) := by decide +kernel
theorem dX5_offer_105 : decode cX5_offer 105 = .ok (.return_, 1) := by decide +kernel
set_option maxRecDepth 20000 in
theorem ggX5_protectedOn_X2_covers : GoodIn wsX5_protectedOn wsX2_covers := goodIn_r _ [6, 7, 8, 28, 29, 30, 31, 32, 33, 34] (by decide +kernel) (by decide +kernel)
set_option maxRecDepth 20000 in
theorem gX5_protectedOn_X2_covers_n236 : GoodIn wsX5_protectedOn (wsX2_covers) := ggX5_protectedOn_X2_covers
set_option maxRecDepth 20000 in
theorem ggX5_protectedOn_X2_protectedAgainst : GoodIn wsX5_protectedOn wsX2_protectedAgainst := goodIn_r _ [11, 12, 13, 28, 29, 30, 31, 32, 33, 34] (by decide +kernel) (by decide +kernel)
set_option maxRecDepth 20000 in
theorem gX5_protectedOn_X2_protectedAgainst_n239 : GoodIn wsX5_protectedOn (wsX2_protectedAgainst) := ggX5_protectedOn_X2_protectedAgainst
theorem dX5_protectedOn_0 : decode cX5_protectedOn 0 = .ok (.iconst 0, 1) := by decide +kernel
theorem dX5_protectedOn_1 : decode cX5_protectedOn 1 = .ok (.istore_n 3, 1) := by decide +kernel
theorem dX5_protectedOn_2 : decode cX5_protectedOn 2 = .ok (.aload_n 0, 1) := by decide +kernel
theorem dX5_protectedOn_3 : decode cX5_protectedOn 3 = .ok (.getfield 15, 3) := by decide +kernel
theorem dX5_protectedOn_6 : decode cX5_protectedOn 6 = .ok (.astore 4, 2) := by decide +kernel
theorem dX5_protectedOn_8 : decode cX5_protectedOn 8 = .ok (.aload 4, 2) := by decide +kernel
theorem dX5_protectedOn_10 : decode cX5_protectedOn 10 = .ok (.arraylength, 1) := by decide +kernel
theorem dX5_protectedOn_11 : decode cX5_protectedOn 11 = .ok (.istore 5, 2) := by decide +kernel
theorem dX5_protectedOn_13 : decode cX5_protectedOn 13 = .ok (.iconst 0, 1) := by decide +kernel
theorem dX5_protectedOn_14 : decode cX5_protectedOn 14 = .ok (.istore 6, 2) := by decide +kernel
theorem dX5_protectedOn_16 : decode cX5_protectedOn 16 = .ok (.iload 6, 2) := by decide +kernel
theorem dX5_protectedOn_18 : decode cX5_protectedOn 18 = .ok (.iload 5, 2) := by decide +kernel
theorem dX5_protectedOn_20 : decode cX5_protectedOn 20 = .ok (.if_icmp .ge 52, 3) := by decide +kernel
theorem dX5_protectedOn_23 : decode cX5_protectedOn 23 = .ok (.aload 4, 2) := by decide +kernel
theorem dX5_protectedOn_25 : decode cX5_protectedOn 25 = .ok (.iload 6, 2) := by decide +kernel
theorem dX5_protectedOn_27 : decode cX5_protectedOn 27 = .ok (.aaload, 1) := by decide +kernel
theorem dX5_protectedOn_28 : decode cX5_protectedOn 28 = .ok (.astore 7, 2) := by decide +kernel
theorem dX5_protectedOn_30 : decode cX5_protectedOn 30 = .ok (.aload 7, 2) := by decide +kernel
theorem dX5_protectedOn_32 : decode cX5_protectedOn 32 = .ok (.ifnull 34, 3) := by decide +kernel
theorem dX5_protectedOn_35 : decode cX5_protectedOn 35 = .ok (.aload 7, 2) := by decide +kernel
theorem dX5_protectedOn_37 : decode cX5_protectedOn 37 = .ok (.iload_n 1, 1) := by decide +kernel
theorem dX5_protectedOn_38 : decode cX5_protectedOn 38 = .ok (.invokevirtual 236, 3) := by decide +kernel
theorem dX5_protectedOn_41 : decode cX5_protectedOn 41 = .ok (.ifCond .eq 25, 3) := by decide +kernel
theorem dX5_protectedOn_44 : decode cX5_protectedOn 44 = .ok (.aload 7, 2) := by decide +kernel
theorem dX5_protectedOn_46 : decode cX5_protectedOn 46 = .ok (.getfield 138, 3) := by decide +kernel
theorem dX5_protectedOn_49 : decode cX5_protectedOn 49 = .ok (.iload_n 2, 1) := by decide +kernel
theorem dX5_protectedOn_50 : decode cX5_protectedOn 50 = .ok (.if_icmp .le 16, 3) := by decide +kernel
theorem dX5_protectedOn_53 : decode cX5_protectedOn 53 = .ok (.iload_n 3, 1) := by decide +kernel
theorem dX5_protectedOn_54 : decode cX5_protectedOn 54 = .ok (.aload 7, 2) := by decide +kernel
theorem dX5_protectedOn_56 : decode cX5_protectedOn 56 = .ok (.iload_n 2, 1) := by decide +kernel
theorem dX5_protectedOn_57 : decode cX5_protectedOn 57 = .ok (.aload_n 0, 1) := by decide +kernel
theorem dX5_protectedOn_58 : decode cX5_protectedOn 58 = .ok (.getfield 49, 3) := by decide +kernel
theorem dX5_protectedOn_61 : decode cX5_protectedOn 61 = .ok (.invokevirtual 239, 3) := by decide +kernel
theorem dX5_protectedOn_64 : decode cX5_protectedOn 64 = .ok (.iadd, 1) := by decide +kernel
theorem dX5_protectedOn_65 : decode cX5_protectedOn 65 = .ok (.istore_n 3, 1) := by decide +kernel
theorem dX5_protectedOn_66 : decode cX5_protectedOn 66 = .ok (.iinc 6 1, 3) := by decide +kernel
theorem dX5_protectedOn_69 : decode cX5_protectedOn 69 = .ok (.goto (-53), 3) := by decide +kernel
theorem dX5_protectedOn_72 : decode cX5_protectedOn 72 = .ok (.iload_n 3, 1) := by decide +kernel
theorem dX5_protectedOn_73 : decode cX5_protectedOn 73 = .ok (.ireturn, 1) := by decide +kernel
set_option maxRecDepth 20000 in
theorem ggX5_learn_X2_learn : GoodIn wsX5_learn wsX2_learn := goodIn_r _ [6, 7, 8, 9, 10, 11, 12, 13, 14, 29, 30, 31, 32, 33, 34, 35] (by decide +kernel) (by decide +kernel)
set_option maxRecDepth 20000 in
theorem gX5_learn_X2_learn_n242 : GoodIn wsX5_learn (wsX2_learn) := ggX5_learn_X2_learn
theorem dX5_learn_0 : decode cX5_learn 0 = .ok (.aload_n 0, 1) := by decide +kernel
theorem dX5_learn_1 : decode cX5_learn 1 = .ok (.dup, 1) := by decide +kernel
theorem dX5_learn_2 : decode cX5_learn 2 = .ok (.getfield 49, 3) := by decide +kernel
theorem dX5_learn_5 : decode cX5_learn 5 = .ok (.iconst 1, 1) := by decide +kernel
theorem dX5_learn_6 : decode cX5_learn 6 = .ok (.iadd, 1) := by decide +kernel
theorem dX5_learn_7 : decode cX5_learn 7 = .ok (.putfield 49, 3) := by decide +kernel
theorem dX5_learn_10 : decode cX5_learn 10 = .ok (.aload_n 0, 1) := by decide +kernel
theorem dX5_learn_11 : decode cX5_learn 11 = .ok (.getfield 15, 3) := by decide +kernel
theorem dX5_learn_14 : decode cX5_learn 14 = .ok (.astore_n 1, 1) := by decide +kernel
theorem dX5_learn_15 : decode cX5_learn 15 = .ok (.aload_n 1, 1) := by decide +kernel
theorem dX5_learn_16 : decode cX5_learn 16 = .ok (.arraylength, 1) := by decide +kernel
theorem dX5_learn_17 : decode cX5_learn 17 = .ok (.istore_n 2, 1) := by decide +kernel
theorem dX5_learn_18 : decode cX5_learn 18 = .ok (.iconst 0, 1) := by decide +kernel
theorem dX5_learn_19 : decode cX5_learn 19 = .ok (.istore_n 3, 1) := by decide +kernel
theorem dX5_learn_20 : decode cX5_learn 20 = .ok (.iload_n 3, 1) := by decide +kernel
theorem dX5_learn_21 : decode cX5_learn 21 = .ok (.iload_n 2, 1) := by decide +kernel
theorem dX5_learn_22 : decode cX5_learn 22 = .ok (.if_icmp .ge 28, 3) := by decide +kernel
theorem dX5_learn_25 : decode cX5_learn 25 = .ok (.aload_n 1, 1) := by decide +kernel
theorem dX5_learn_26 : decode cX5_learn 26 = .ok (.iload_n 3, 1) := by decide +kernel
theorem dX5_learn_27 : decode cX5_learn 27 = .ok (.aaload, 1) := by decide +kernel
theorem dX5_learn_28 : decode cX5_learn 28 = .ok (.astore 4, 2) := by decide +kernel
theorem dX5_learn_30 : decode cX5_learn 30 = .ok (.aload 4, 2) := by decide +kernel
theorem dX5_learn_32 : decode cX5_learn 32 = .ok (.ifnull 12, 3) := by decide +kernel
theorem dX5_learn_35 : decode cX5_learn 35 = .ok (.aload 4, 2) := by decide +kernel
theorem dX5_learn_37 : decode cX5_learn 37 = .ok (.aload_n 0, 1) := by decide +kernel
theorem dX5_learn_38 : decode cX5_learn 38 = .ok (.getfield 49, 3) := by decide +kernel
theorem dX5_learn_41 : decode cX5_learn 41 = .ok (.invokevirtual 242, 3) := by decide +kernel
theorem dX5_learn_44 : decode cX5_learn 44 = .ok (.iinc 3 1, 3) := by decide +kernel
theorem dX5_learn_47 : decode cX5_learn 47 = .ok (.goto (-27), 3) := by decide +kernel
theorem dX5_learn_50 : decode cX5_learn 50 = .ok (.return_, 1) := by decide +kernel
set_option maxRecDepth 20000 in
theorem ggX5_isFull_X5_bookedOn : GoodIn wsX5_isFull wsX5_bookedOn := goodIn_r _ [5, 6, 7, 8, 9, 4, 10, 11, 12, 13, 14, 15, 16, 17, 18, 19, 37, 38, 39, 40, 41, 42, 43, 44, 45, 46, 47, 48, 49, 50, 51, 52, 53, 54, 55] (by decide +kernel) (by decide +kernel)
set_option maxRecDepth 20000 in
theorem gX5_isFull_X5_bookedOn : GoodIn wsX5_isFull (wsV RX5 191 RX5 yX5_bookedOn wsX5_bookedOn) := goodIn_app (goodIn_of _ (by decide +kernel)) ggX5_isFull_X5_bookedOn
set_option maxRecDepth 20000 in
theorem ggX5_isFull_X5_authorisedOn : GoodIn wsX5_isFull wsX5_authorisedOn := goodIn_r _ [23, 24, 25, 26, 27, 4, 28, 29, 37, 38, 39, 40, 41, 42, 43, 44, 45, 46, 47, 48, 49, 50] (by decide +kernel) (by decide +kernel)
set_option maxRecDepth 20000 in
theorem gX5_isFull_X5_authorisedOn : GoodIn wsX5_isFull (wsV RX5 194 RX5 yX5_authorisedOn wsX5_authorisedOn) := goodIn_app (goodIn_of _ (by decide +kernel)) ggX5_isFull_X5_authorisedOn
theorem dX5_isFull_0 : decode cX5_isFull 0 = .ok (.aload_n 1, 1) := by decide +kernel
theorem dX5_isFull_1 : decode cX5_isFull 1 = .ok (.getfield 141, 3) := by decide +kernel
theorem dX5_isFull_4 : decode cX5_isFull 4 = .ok (.istore_n 2, 1) := by decide +kernel
theorem dX5_isFull_5 : decode cX5_isFull 5 = .ok (.iload_n 2, 1) := by decide +kernel
theorem dX5_isFull_6 : decode cX5_isFull 6 = .ok (.aload_n 1, 1) := by decide +kernel
theorem dX5_isFull_7 : decode cX5_isFull 7 = .ok (.getfield 144, 3) := by decide +kernel
theorem dX5_isFull_10 : decode cX5_isFull 10 = .ok (.if_icmp .gt 24, 3) := by decide +kernel
theorem dX5_isFull_13 : decode cX5_isFull 13 = .ok (.aload_n 0, 1) := by decide +kernel
theorem dX5_isFull_14 : decode cX5_isFull 14 = .ok (.iload_n 2, 1) := by decide +kernel
theorem dX5_isFull_15 : decode cX5_isFull 15 = .ok (.invokevirtual 191, 3) := by decide +kernel
theorem dX5_isFull_18 : decode cX5_isFull 18 = .ok (.aload_n 0, 1) := by decide +kernel
theorem dX5_isFull_19 : decode cX5_isFull 19 = .ok (.iload_n 2, 1) := by decide +kernel
theorem dX5_isFull_20 : decode cX5_isFull 20 = .ok (.invokevirtual 194, 3) := by decide +kernel
theorem dX5_isFull_23 : decode cX5_isFull 23 = .ok (.if_icmp .lt 5, 3) := by decide +kernel
theorem dX5_isFull_26 : decode cX5_isFull 26 = .ok (.iconst 1, 1) := by decide +kernel
theorem dX5_isFull_27 : decode cX5_isFull 27 = .ok (.ireturn, 1) := by decide +kernel
theorem dX5_isFull_28 : decode cX5_isFull 28 = .ok (.iinc 2 1, 3) := by decide +kernel
theorem dX5_isFull_31 : decode cX5_isFull 31 = .ok (.goto (-26), 3) := by decide +kernel
theorem dX5_isFull_34 : decode cX5_isFull 34 = .ok (.iconst 0, 1) := by decide +kernel
theorem dX5_isFull_35 : decode cX5_isFull 35 = .ok (.ireturn, 1) := by decide +kernel
set_option maxRecDepth 20000 in
theorem ggX5_isProtected_X5_authorisedOn : GoodIn wsX5_isProtected wsX5_authorisedOn := goodIn_r _ [5, 6, 7, 8, 9, 4, 10, 11, 54, 55, 56, 57, 58, 59, 60, 61, 62, 63, 64, 65, 66, 67] (by decide +kernel) (by decide +kernel)
set_option maxRecDepth 20000 in
theorem gX5_isProtected_X5_authorisedOn : GoodIn wsX5_isProtected (wsV RX5 194 RX5 yX5_authorisedOn wsX5_authorisedOn) := goodIn_app (goodIn_of _ (by decide +kernel)) ggX5_isProtected_X5_authorisedOn
set_option maxRecDepth 20000 in
theorem ggX5_isProtected_X5_bookedOn : GoodIn wsX5_isProtected wsX5_bookedOn := goodIn_r _ [15, 16, 17, 18, 19, 4, 20, 21, 22, 23, 24, 25, 26, 27, 28, 29, 54, 55, 56, 57, 58, 59, 60, 61, 62, 63, 64, 65, 66, 67, 68, 69, 70, 71, 72] (by decide +kernel) (by decide +kernel)
set_option maxRecDepth 20000 in
theorem gX5_isProtected_X5_bookedOn : GoodIn wsX5_isProtected (wsV RX5 191 RX5 yX5_bookedOn wsX5_bookedOn) := goodIn_app (goodIn_of _ (by decide +kernel)) ggX5_isProtected_X5_bookedOn
set_option maxRecDepth 20000 in
theorem ggX5_isProtected_X5_protectedOn : GoodIn wsX5_isProtected wsX5_protectedOn := goodIn_r _ [33, 34, 35, 36, 37, 38, 39, 40, 41, 42, 43, 44, 45, 46, 54, 55, 56, 57, 58, 59, 60, 61, 62, 63, 64, 65, 66, 67, 47, 48, 49, 50, 51, 52, 53] (by decide +kernel) (by decide +kernel)
set_option maxRecDepth 20000 in
theorem gX5_isProtected_X5_protectedOn : GoodIn wsX5_isProtected (wsV RX5 199 RX5 yX5_protectedOn wsX5_protectedOn) := goodIn_app (goodIn_of _ (by decide +kernel)) ggX5_isProtected_X5_protectedOn
theorem dX5_isProtected_0 : decode cX5_isProtected 0 = .ok (.aload_n 1, 1) := by decide +kernel
theorem dX5_isProtected_1 : decode cX5_isProtected 1 = .ok (.getfield 141, 3) := by decide +kernel
theorem dX5_isProtected_4 : decode cX5_isProtected 4 = .ok (.istore_n 2, 1) := by decide +kernel
theorem dX5_isProtected_5 : decode cX5_isProtected 5 = .ok (.iload_n 2, 1) := by decide +kernel
theorem dX5_isProtected_6 : decode cX5_isProtected 6 = .ok (.aload_n 1, 1) := by decide +kernel
theorem dX5_isProtected_7 : decode cX5_isProtected 7 = .ok (.getfield 144, 3) := by decide +kernel
theorem dX5_isProtected_10 : decode cX5_isProtected 10 = .ok (.if_icmp .gt 35, 3) := by decide +kernel
theorem dX5_isProtected_13 : decode cX5_isProtected 13 = .ok (.aload_n 0, 1) := by decide +kernel
theorem dX5_isProtected_14 : decode cX5_isProtected 14 = .ok (.iload_n 2, 1) := by decide +kernel
theorem dX5_isProtected_15 : decode cX5_isProtected 15 = .ok (.invokevirtual 194, 3) := by decide +kernel
theorem dX5_isProtected_18 : decode cX5_isProtected 18 = .ok (.aload_n 0, 1) := by decide +kernel
theorem dX5_isProtected_19 : decode cX5_isProtected 19 = .ok (.iload_n 2, 1) := by decide +kernel
theorem dX5_isProtected_20 : decode cX5_isProtected 20 = .ok (.invokevirtual 191, 3) := by decide +kernel
theorem dX5_isProtected_23 : decode cX5_isProtected 23 = .ok (.isub, 1) := by decide +kernel
theorem dX5_isProtected_24 : decode cX5_isProtected 24 = .ok (.aload_n 0, 1) := by decide +kernel
theorem dX5_isProtected_25 : decode cX5_isProtected 25 = .ok (.iload_n 2, 1) := by decide +kernel
theorem dX5_isProtected_26 : decode cX5_isProtected 26 = .ok (.aload_n 1, 1) := by decide +kernel
theorem dX5_isProtected_27 : decode cX5_isProtected 27 = .ok (.getfield 138, 3) := by decide +kernel
theorem dX5_isProtected_30 : decode cX5_isProtected 30 = .ok (.invokevirtual 199, 3) := by decide +kernel
theorem dX5_isProtected_33 : decode cX5_isProtected 33 = .ok (.isub, 1) := by decide +kernel
theorem dX5_isProtected_34 : decode cX5_isProtected 34 = .ok (.ifCond .gt 5, 3) := by decide +kernel
theorem dX5_isProtected_37 : decode cX5_isProtected 37 = .ok (.iconst 1, 1) := by decide +kernel
theorem dX5_isProtected_38 : decode cX5_isProtected 38 = .ok (.ireturn, 1) := by decide +kernel
theorem dX5_isProtected_39 : decode cX5_isProtected 39 = .ok (.iinc 2 1, 3) := by decide +kernel
theorem dX5_isProtected_42 : decode cX5_isProtected 42 = .ok (.goto (-37), 3) := by decide +kernel
theorem dX5_isProtected_45 : decode cX5_isProtected 45 = .ok (.iconst 0, 1) := by decide +kernel
theorem dX5_isProtected_46 : decode cX5_isProtected 46 = .ok (.ireturn, 1) := by decide +kernel
theorem dX5_refuse_0 : decode cX5_refuse 0 = .ok (.iload_n 1, 1) := by decide +kernel
theorem dX5_refuse_1 : decode cX5_refuse 1 = .ok (.iconst (-1), 1) := by decide +kernel
theorem dX5_refuse_2 : decode cX5_refuse 2 = .ok (.if_icmp .ne 16, 3) := by decide +kernel
theorem dX5_refuse_5 : decode cX5_refuse 5 = .ok (.aload_n 0, 1) := by decide +kernel
theorem dX5_refuse_6 : decode cX5_refuse 6 = .ok (.dup, 1) := by decide +kernel
theorem dX5_refuse_7 : decode cX5_refuse 7 = .ok (.getfield 55, 3) := by decide +kernel
theorem dX5_refuse_10 : decode cX5_refuse 10 = .ok (.iconst 1, 1) := by decide +kernel
theorem dX5_refuse_11 : decode cX5_refuse 11 = .ok (.iadd, 1) := by decide +kernel
theorem dX5_refuse_12 : decode cX5_refuse 12 = .ok (.putfield 55, 3) := by decide +kernel
theorem dX5_refuse_15 : decode cX5_refuse 15 = .ok (.goto 32, 3) := by decide +kernel
theorem dX5_refuse_18 : decode cX5_refuse 18 = .ok (.iload_n 1, 1) := by decide +kernel
theorem dX5_refuse_19 : decode cX5_refuse 19 = .ok (.bipush (-2), 2) := by decide +kernel
theorem dX5_refuse_21 : decode cX5_refuse 21 = .ok (.if_icmp .ne 16, 3) := by decide +kernel
theorem dX5_refuse_24 : decode cX5_refuse 24 = .ok (.aload_n 0, 1) := by decide +kernel
theorem dX5_refuse_25 : decode cX5_refuse 25 = .ok (.dup, 1) := by decide +kernel
theorem dX5_refuse_26 : decode cX5_refuse 26 = .ok (.getfield 58, 3) := by decide +kernel
theorem dX5_refuse_29 : decode cX5_refuse 29 = .ok (.iconst 1, 1) := by decide +kernel
theorem dX5_refuse_30 : decode cX5_refuse 30 = .ok (.iadd, 1) := by decide +kernel
theorem dX5_refuse_31 : decode cX5_refuse 31 = .ok (.putfield 58, 3) := by decide +kernel
theorem dX5_refuse_34 : decode cX5_refuse 34 = .ok (.goto 13, 3) := by decide +kernel
theorem dX5_refuse_37 : decode cX5_refuse 37 = .ok (.aload_n 0, 1) := by decide +kernel
theorem dX5_refuse_38 : decode cX5_refuse 38 = .ok (.dup, 1) := by decide +kernel
theorem dX5_refuse_39 : decode cX5_refuse 39 = .ok (.getfield 61, 3) := by decide +kernel
theorem dX5_refuse_42 : decode cX5_refuse 42 = .ok (.iconst 1, 1) := by decide +kernel
theorem dX5_refuse_43 : decode cX5_refuse 43 = .ok (.iadd, 1) := by decide +kernel
theorem dX5_refuse_44 : decode cX5_refuse 44 = .ok (.putfield 61, 3) := by decide +kernel
theorem dX5_refuse_47 : decode cX5_refuse 47 = .ok (.iload_n 1, 1) := by decide +kernel
theorem dX5_refuse_48 : decode cX5_refuse 48 = .ok (.ireturn, 1) := by decide +kernel
theorem dX5_bookingAt_0 : decode cX5_bookingAt 0 = .ok (.iload_n 1, 1) := by decide +kernel
theorem dX5_bookingAt_1 : decode cX5_bookingAt 1 = .ok (.ifCond .lt 29, 3) := by decide +kernel
theorem dX5_bookingAt_4 : decode cX5_bookingAt 4 = .ok (.iload_n 1, 1) := by decide +kernel
theorem dX5_bookingAt_5 : decode cX5_bookingAt 5 = .ok (.aload_n 0, 1) := by decide +kernel
theorem dX5_bookingAt_6 : decode cX5_bookingAt 6 = .ok (.getfield 46, 3) := by decide +kernel
theorem dX5_bookingAt_9 : decode cX5_bookingAt 9 = .ok (.if_icmp .ge 21, 3) := by decide +kernel
theorem dX5_bookingAt_12 : decode cX5_bookingAt 12 = .ok (.iload_n 1, 1) := by decide +kernel
theorem dX5_bookingAt_13 : decode cX5_bookingAt 13 = .ok (.aload_n 0, 1) := by decide +kernel
theorem dX5_bookingAt_14 : decode cX5_bookingAt 14 = .ok (.getfield 24, 3) := by decide +kernel
theorem dX5_bookingAt_17 : decode cX5_bookingAt 17 = .ok (.arraylength, 1) := by decide +kernel
theorem dX5_bookingAt_18 : decode cX5_bookingAt 18 = .ok (.if_icmp .ge 12, 3) := by decide +kernel
theorem dX5_bookingAt_21 : decode cX5_bookingAt 21 = .ok (.aload_n 0, 1) := by decide +kernel
theorem dX5_bookingAt_22 : decode cX5_bookingAt 22 = .ok (.getfield 24, 3) := by decide +kernel
theorem dX5_bookingAt_25 : decode cX5_bookingAt 25 = .ok (.iload_n 1, 1) := by decide +kernel
theorem dX5_bookingAt_26 : decode cX5_bookingAt 26 = .ok (.aaload, 1) := by decide +kernel
theorem dX5_bookingAt_27 : decode cX5_bookingAt 27 = .ok (.goto 4, 3) := by decide +kernel
theorem dX5_bookingAt_30 : decode cX5_bookingAt 30 = .ok (.aconst_null, 1) := by decide +kernel
theorem dX5_bookingAt_31 : decode cX5_bookingAt 31 = .ok (.areturn, 1) := by decide +kernel
theorem dX5_enter_0 : decode cX5_enter 0 = .ok (.aload_n 0, 1) := by decide +kernel
theorem dX5_enter_1 : decode cX5_enter 1 = .ok (.getfield 46, 3) := by decide +kernel
theorem dX5_enter_4 : decode cX5_enter 4 = .ok (.istore_n 2, 1) := by decide +kernel
theorem dX5_enter_5 : decode cX5_enter 5 = .ok (.iload_n 2, 1) := by decide +kernel
theorem dX5_enter_6 : decode cX5_enter 6 = .ok (.ifCond .lt 29, 3) := by decide +kernel
theorem dX5_enter_9 : decode cX5_enter 9 = .ok (.iload_n 2, 1) := by decide +kernel
theorem dX5_enter_10 : decode cX5_enter 10 = .ok (.aload_n 0, 1) := by decide +kernel
theorem dX5_enter_11 : decode cX5_enter 11 = .ok (.getfield 24, 3) := by decide +kernel
theorem dX5_enter_14 : decode cX5_enter 14 = .ok (.arraylength, 1) := by decide +kernel
theorem dX5_enter_15 : decode cX5_enter 15 = .ok (.if_icmp .ge 20, 3) := by decide +kernel
theorem dX5_enter_18 : decode cX5_enter 18 = .ok (.aload_n 0, 1) := by decide +kernel
theorem dX5_enter_19 : decode cX5_enter 19 = .ok (.getfield 24, 3) := by decide +kernel
theorem dX5_enter_22 : decode cX5_enter 22 = .ok (.iload_n 2, 1) := by decide +kernel
theorem dX5_enter_23 : decode cX5_enter 23 = .ok (.aload_n 1, 1) := by decide +kernel
theorem dX5_enter_24 : decode cX5_enter 24 = .ok (.aastore, 1) := by decide +kernel
theorem dX5_enter_25 : decode cX5_enter 25 = .ok (.aload_n 0, 1) := by decide +kernel
theorem dX5_enter_26 : decode cX5_enter 26 = .ok (.dup, 1) := by decide +kernel
theorem dX5_enter_27 : decode cX5_enter 27 = .ok (.getfield 46, 3) := by decide +kernel
theorem dX5_enter_30 : decode cX5_enter 30 = .ok (.iconst 1, 1) := by decide +kernel
theorem dX5_enter_31 : decode cX5_enter 31 = .ok (.iadd, 1) := by decide +kernel
theorem dX5_enter_32 : decode cX5_enter 32 = .ok (.putfield 46, 3) := by decide +kernel
theorem dX5_enter_35 : decode cX5_enter 35 = .ok (.iload_n 2, 1) := by decide +kernel
theorem dX5_enter_36 : decode cX5_enter 36 = .ok (.ireturn, 1) := by decide +kernel
set_option maxRecDepth 20000 in
theorem ggX5_faresOfToday_X5_bookingAt : GoodIn wsX5_faresOfToday wsX5_bookingAt := goodIn_r _ [6, 1, 7, 8, 9, 10, 11, 12, 13, 14, 15, 16, 17, 18, 19, 20, 21] (by decide +kernel) (by decide +kernel)
set_option maxRecDepth 20000 in
theorem gX5_faresOfToday_X5_bookingAt : GoodIn wsX5_faresOfToday (wsV RX5 165 RX5 yX5_bookingAt wsX5_bookingAt) := goodIn_app (goodIn_of _ (by decide +kernel)) ggX5_faresOfToday_X5_bookingAt
theorem dX5_faresOfToday_0 : decode cX5_faresOfToday 0 = .ok (.iconst 0, 1) := by decide +kernel
theorem dX5_faresOfToday_1 : decode cX5_faresOfToday 1 = .ok (.istore_n 1, 1) := by decide +kernel
theorem dX5_faresOfToday_2 : decode cX5_faresOfToday 2 = .ok (.iconst 0, 1) := by decide +kernel
theorem dX5_faresOfToday_3 : decode cX5_faresOfToday 3 = .ok (.istore_n 2, 1) := by decide +kernel
theorem dX5_faresOfToday_4 : decode cX5_faresOfToday 4 = .ok (.iload_n 2, 1) := by decide +kernel
theorem dX5_faresOfToday_5 : decode cX5_faresOfToday 5 = .ok (.aload_n 0, 1) := by decide +kernel
theorem dX5_faresOfToday_6 : decode cX5_faresOfToday 6 = .ok (.getfield 46, 3) := by decide +kernel
theorem dX5_faresOfToday_9 : decode cX5_faresOfToday 9 = .ok (.if_icmp .ge 33, 3) := by decide +kernel
theorem dX5_faresOfToday_12 : decode cX5_faresOfToday 12 = .ok (.aload_n 0, 1) := by decide +kernel
theorem dX5_faresOfToday_13 : decode cX5_faresOfToday 13 = .ok (.iload_n 2, 1) := by decide +kernel
theorem dX5_faresOfToday_14 : decode cX5_faresOfToday 14 = .ok (.invokevirtual 165, 3) := by decide +kernel
theorem dX5_faresOfToday_17 : decode cX5_faresOfToday 17 = .ok (.astore_n 3, 1) := by decide +kernel
theorem dX5_faresOfToday_18 : decode cX5_faresOfToday 18 = .ok (.aload_n 3, 1) := by decide +kernel
theorem dX5_faresOfToday_19 : decode cX5_faresOfToday 19 = .ok (.ifnull 17, 3) := by decide +kernel
theorem dX5_faresOfToday_22 : decode cX5_faresOfToday 22 = .ok (.aload_n 3, 1) := by decide +kernel
theorem dX5_faresOfToday_23 : decode cX5_faresOfToday 23 = .ok (.getfield 171, 3) := by decide +kernel
theorem dX5_faresOfToday_26 : decode cX5_faresOfToday 26 = .ok (.ifCond .ne 10, 3) := by decide +kernel
theorem dX5_faresOfToday_29 : decode cX5_faresOfToday 29 = .ok (.iload_n 1, 1) := by decide +kernel
theorem dX5_faresOfToday_30 : decode cX5_faresOfToday 30 = .ok (.aload_n 3, 1) := by decide +kernel
theorem dX5_faresOfToday_31 : decode cX5_faresOfToday 31 = .ok (.getfield 245, 3) := by decide +kernel
theorem dX5_faresOfToday_34 : decode cX5_faresOfToday 34 = .ok (.iadd, 1) := by decide +kernel
theorem dX5_faresOfToday_35 : decode cX5_faresOfToday 35 = .ok (.istore_n 1, 1) := by decide +kernel
theorem dX5_faresOfToday_36 : decode cX5_faresOfToday 36 = .ok (.iinc 2 1, 3) := by decide +kernel
theorem dX5_faresOfToday_39 : decode cX5_faresOfToday 39 = .ok (.goto (-35), 3) := by decide +kernel
theorem dX5_faresOfToday_42 : decode cX5_faresOfToday 42 = .ok (.iload_n 1, 1) := by decide +kernel
theorem dX5_faresOfToday_43 : decode cX5_faresOfToday 43 = .ok (.ireturn, 1) := by decide +kernel
set_option maxRecDepth 20000 in
theorem ggX5_worthWithMore_X1_clear : GoodIn wsX5_worthWithMore wsX1_clear := goodIn_r _ [6, 7, 8, 9, 10, 11, 12, 100, 101, 102, 103, 104, 105, 106, 107] (by decide +kernel) (by decide +kernel)
set_option maxRecDepth 20000 in
theorem gX5_worthWithMore_X1_clear_n248 : GoodIn wsX5_worthWithMore (wsX1_clear) := ggX5_worthWithMore_X1_clear
set_option maxRecDepth 20000 in
theorem ggX5_worthWithMore_X1_add : GoodIn wsX5_worthWithMore wsX1_add := goodIn_r _ [15, 16, 17, 18, 4, 19, 7, 10, 12, 8, 11, 9, 20, 21, 22, 23, 24, 25, 26, 27, 28, 29, 30, 31, 32, 33, 34, 35, 108, 109, 110, 111, 112, 113, 114, 100, 101, 102, 103, 104, 105, 106, 107] (by decide +kernel) (by decide +kernel)
set_option maxRecDepth 20000 in
theorem gX5_worthWithMore_X1_add_n249 : GoodIn wsX5_worthWithMore (wsX1_add) := ggX5_worthWithMore_X1_add
set_option maxRecDepth 20000 in
theorem ggX5_worthWithMore_X5_leftOn : GoodIn wsX5_worthWithMore wsX5_leftOn := goodIn_r _ [40, 41, 27, 28, 29, 42, 43, 44, 39, 45, 46, 47, 48, 49, 50, 51, 52, 53, 54, 55, 56, 57, 58, 59, 60, 61, 62, 63, 64, 86, 87, 88, 89, 90, 91, 92, 93, 94, 95, 96, 97, 98, 99, 115, 116, 117, 118, 119] (by decide +kernel) (by decide +kernel)
set_option maxRecDepth 20000 in
theorem gX5_worthWithMore_X5_leftOn : GoodIn wsX5_worthWithMore (wsV RX5 205 RX5 yX5_leftOn wsX5_leftOn) := goodIn_app (goodIn_of _ (by decide +kernel)) ggX5_worthWithMore_X5_leftOn
set_option maxRecDepth 20000 in
theorem ggX5_worthWithMore_X5_within : GoodIn wsX5_worthWithMore wsX5_within := goodIn_r _ [67] (by decide +kernel) (by decide +kernel)
set_option maxRecDepth 20000 in
theorem gX5_worthWithMore_X5_within : GoodIn wsX5_worthWithMore (va_wsS RX5 68 yX5_within wsX5_within) := goodIn_app (goodIn_of _ (by decide +kernel)) ggX5_worthWithMore_X5_within
set_option maxRecDepth 20000 in
theorem ggX5_worthWithMore_X1_mostFor : GoodIn wsX5_worthWithMore wsX1_mostFor := goodIn_r _ [70, 12, 71, 72, 28, 73, 74, 27, 29, 75, 31, 76, 77, 34, 35, 78, 79, 80, 4, 81, 10, 7, 82, 83, 84, 85, 11, 8, 9, 100, 101, 102, 103, 104, 105, 106, 107] (by decide +kernel) (by decide +kernel)
set_option maxRecDepth 20000 in
theorem gX5_worthWithMore_X1_mostFor_n252 : GoodIn wsX5_worthWithMore (wsX1_mostFor) := ggX5_worthWithMore_X1_mostFor
theorem dX5_worthWithMore_0 : decode cX5_worthWithMore 0 = .ok (.aload_n 0, 1) := by decide +kernel
theorem dX5_worthWithMore_1 : decode cX5_worthWithMore 1 = .ok (.getfield 31, 3) := by decide +kernel
theorem dX5_worthWithMore_4 : decode cX5_worthWithMore 4 = .ok (.invokevirtual 248, 3) := by decide +kernel
theorem dX5_worthWithMore_7 : decode cX5_worthWithMore 7 = .ok (.aload_n 0, 1) := by decide +kernel
theorem dX5_worthWithMore_8 : decode cX5_worthWithMore 8 = .ok (.getfield 19, 3) := by decide +kernel
theorem dX5_worthWithMore_11 : decode cX5_worthWithMore 11 = .ok (.astore 4, 2) := by decide +kernel
theorem dX5_worthWithMore_13 : decode cX5_worthWithMore 13 = .ok (.aload 4, 2) := by decide +kernel
theorem dX5_worthWithMore_15 : decode cX5_worthWithMore 15 = .ok (.arraylength, 1) := by decide +kernel
theorem dX5_worthWithMore_16 : decode cX5_worthWithMore 16 = .ok (.istore 5, 2) := by decide +kernel
theorem dX5_worthWithMore_18 : decode cX5_worthWithMore 18 = .ok (.iconst 0, 1) := by decide +kernel
theorem dX5_worthWithMore_19 : decode cX5_worthWithMore 19 = .ok (.istore 6, 2) := by decide +kernel
theorem dX5_worthWithMore_21 : decode cX5_worthWithMore 21 = .ok (.iload 6, 2) := by decide +kernel
theorem dX5_worthWithMore_23 : decode cX5_worthWithMore 23 = .ok (.iload 5, 2) := by decide +kernel
theorem dX5_worthWithMore_25 : decode cX5_worthWithMore 25 = .ok (.if_icmp .ge 30, 3) := by decide +kernel
theorem dX5_worthWithMore_28 : decode cX5_worthWithMore 28 = .ok (.aload 4, 2) := by decide +kernel
theorem dX5_worthWithMore_30 : decode cX5_worthWithMore 30 = .ok (.iload 6, 2) := by decide +kernel
theorem dX5_worthWithMore_32 : decode cX5_worthWithMore 32 = .ok (.aaload, 1) := by decide +kernel
theorem dX5_worthWithMore_33 : decode cX5_worthWithMore 33 = .ok (.astore 7, 2) := by decide +kernel
theorem dX5_worthWithMore_35 : decode cX5_worthWithMore 35 = .ok (.aload 7, 2) := by decide +kernel
theorem dX5_worthWithMore_37 : decode cX5_worthWithMore 37 = .ok (.ifnull 12, 3) := by decide +kernel
theorem dX5_worthWithMore_40 : decode cX5_worthWithMore 40 = .ok (.aload_n 0, 1) := by decide +kernel
theorem dX5_worthWithMore_41 : decode cX5_worthWithMore 41 = .ok (.getfield 31, 3) := by decide +kernel
theorem dX5_worthWithMore_44 : decode cX5_worthWithMore 44 = .ok (.aload 7, 2) := by decide +kernel
theorem dX5_worthWithMore_46 : decode cX5_worthWithMore 46 = .ok (.invokevirtual 249, 3) := by decide +kernel
theorem dX5_worthWithMore_49 : decode cX5_worthWithMore 49 = .ok (.iinc 6 1, 3) := by decide +kernel
theorem dX5_worthWithMore_52 : decode cX5_worthWithMore 52 = .ok (.goto (-31), 3) := by decide +kernel
theorem dX5_worthWithMore_55 : decode cX5_worthWithMore 55 = .ok (.aload_n 0, 1) := by decide +kernel
theorem dX5_worthWithMore_56 : decode cX5_worthWithMore 56 = .ok (.iconst 0, 1) := by decide +kernel
theorem dX5_worthWithMore_57 : decode cX5_worthWithMore 57 = .ok (.invokevirtual 205, 3) := by decide +kernel
theorem dX5_worthWithMore_60 : decode cX5_worthWithMore 60 = .ok (.iconst 0, 1) := by decide +kernel
theorem dX5_worthWithMore_61 : decode cX5_worthWithMore 61 = .ok (.iload_n 1, 1) := by decide +kernel
theorem dX5_worthWithMore_62 : decode cX5_worthWithMore 62 = .ok (.iload_n 2, 1) := by decide +kernel
theorem dX5_worthWithMore_63 : decode cX5_worthWithMore 63 = .ok (.invokestatic 68, 3) := by decide +kernel
theorem dX5_worthWithMore_66 : decode cX5_worthWithMore 66 = .ok (.ifCond .eq 7, 3) := by decide +kernel
theorem dX5_worthWithMore_69 : decode cX5_worthWithMore 69 = .ok (.iload_n 3, 1) := by decide +kernel
theorem dX5_worthWithMore_70 : decode cX5_worthWithMore 70 = .ok (.goto 4, 3) := by decide +kernel
theorem dX5_worthWithMore_73 : decode cX5_worthWithMore 73 = .ok (.iconst 0, 1) := by decide +kernel
theorem dX5_worthWithMore_74 : decode cX5_worthWithMore 74 = .ok (.iadd, 1) := by decide +kernel
theorem dX5_worthWithMore_75 : decode cX5_worthWithMore 75 = .ok (.istore 4, 2) := by decide +kernel
theorem dX5_worthWithMore_77 : decode cX5_worthWithMore 77 = .ok (.aload_n 0, 1) := by decide +kernel
theorem dX5_worthWithMore_78 : decode cX5_worthWithMore 78 = .ok (.iconst 1, 1) := by decide +kernel
theorem dX5_worthWithMore_79 : decode cX5_worthWithMore 79 = .ok (.invokevirtual 205, 3) := by decide +kernel
theorem dX5_worthWithMore_82 : decode cX5_worthWithMore 82 = .ok (.iconst 1, 1) := by decide +kernel
theorem dX5_worthWithMore_83 : decode cX5_worthWithMore 83 = .ok (.iload_n 1, 1) := by decide +kernel
theorem dX5_worthWithMore_84 : decode cX5_worthWithMore 84 = .ok (.iload_n 2, 1) := by decide +kernel
theorem dX5_worthWithMore_85 : decode cX5_worthWithMore 85 = .ok (.invokestatic 68, 3) := by decide +kernel
theorem dX5_worthWithMore_88 : decode cX5_worthWithMore 88 = .ok (.ifCond .eq 7, 3) := by decide +kernel
theorem dX5_worthWithMore_91 : decode cX5_worthWithMore 91 = .ok (.iload_n 3, 1) := by decide +kernel
theorem dX5_worthWithMore_92 : decode cX5_worthWithMore 92 = .ok (.goto 4, 3) := by decide +kernel
theorem dX5_worthWithMore_95 : decode cX5_worthWithMore 95 = .ok (.iconst 0, 1) := by decide +kernel
theorem dX5_worthWithMore_96 : decode cX5_worthWithMore 96 = .ok (.iadd, 1) := by decide +kernel
theorem dX5_worthWithMore_97 : decode cX5_worthWithMore 97 = .ok (.istore 5, 2) := by decide +kernel
theorem dX5_worthWithMore_99 : decode cX5_worthWithMore 99 = .ok (.aload_n 0, 1) := by decide +kernel
theorem dX5_worthWithMore_100 : decode cX5_worthWithMore 100 = .ok (.iconst 2, 1) := by decide +kernel
theorem dX5_worthWithMore_101 : decode cX5_worthWithMore 101 = .ok (.invokevirtual 205, 3) := by decide +kernel
theorem dX5_worthWithMore_104 : decode cX5_worthWithMore 104 = .ok (.iconst 2, 1) := by decide +kernel
theorem dX5_worthWithMore_105 : decode cX5_worthWithMore 105 = .ok (.iload_n 1, 1) := by decide +kernel
theorem dX5_worthWithMore_106 : decode cX5_worthWithMore 106 = .ok (.iload_n 2, 1) := by decide +kernel
theorem dX5_worthWithMore_107 : decode cX5_worthWithMore 107 = .ok (.invokestatic 68, 3) := by decide +kernel
theorem dX5_worthWithMore_110 : decode cX5_worthWithMore 110 = .ok (.ifCond .eq 7, 3) := by decide +kernel
theorem dX5_worthWithMore_113 : decode cX5_worthWithMore 113 = .ok (.iload_n 3, 1) := by decide +kernel
theorem dX5_worthWithMore_114 : decode cX5_worthWithMore 114 = .ok (.goto 4, 3) := by decide +kernel
theorem dX5_worthWithMore_117 : decode cX5_worthWithMore 117 = .ok (.iconst 0, 1) := by decide +kernel
theorem dX5_worthWithMore_118 : decode cX5_worthWithMore 118 = .ok (.iadd, 1) := by decide +kernel
theorem dX5_worthWithMore_119 : decode cX5_worthWithMore 119 = .ok (.istore 6, 2) := by decide +kernel
theorem dX5_worthWithMore_121 : decode cX5_worthWithMore 121 = .ok (.aload_n 0, 1) := by decide +kernel
theorem dX5_worthWithMore_122 : decode cX5_worthWithMore 122 = .ok (.getfield 31, 3) := by decide +kernel
theorem dX5_worthWithMore_125 : decode cX5_worthWithMore 125 = .ok (.iload 4, 2) := by decide +kernel
theorem dX5_worthWithMore_127 : decode cX5_worthWithMore 127 = .ok (.iload 5, 2) := by decide +kernel
theorem dX5_worthWithMore_129 : decode cX5_worthWithMore 129 = .ok (.iload 6, 2) := by decide +kernel
theorem dX5_worthWithMore_131 : decode cX5_worthWithMore 131 = .ok (.invokevirtual 252, 3) := by decide +kernel
theorem dX5_worthWithMore_134 : decode cX5_worthWithMore 134 = .ok (.ireturn, 1) := by decide +kernel
set_option maxRecDepth 20000 in
theorem ggX5_bidsOver_X5_worthWithMore : GoodIn wsX5_bidsOver wsX5_worthWithMore := goodIn_r _ [5, 6, 7, 8, 9, 10, 11, 12, 13, 14, 15, 16, 17, 18, 19, 20, 21, 22, 23, 24, 25, 26, 27, 28, 29, 30, 31, 32, 33, 34, 35, 36, 37, 38, 39, 40, 41, 42, 43, 4, 44, 45, 46, 47, 48, 49, 50, 51, 52, 53, 54, 55, 56, 57, 58, 59, 60, 61, 62, 63, 64, 65, 66, 67, 68, 69, 70, 71, 72, 73, 74, 75, 76, 77, 78, 79, 80, 81, 82, 83, 84, 85, 86, 87, 88, 89, 90, 91, 92, 93, 94, 95, 96, 97, 98, 99, 100, 101, 102, 103, 104, 105, 106, 107, 108, 109, 110, 111, 112, 113, 114, 115, 116, 117, 118, 119, 120, 121, 122, 123] (by decide +kernel) (by decide +kernel)
set_option maxRecDepth 20000 in
theorem gX5_bidsOver_X5_worthWithMore : GoodIn wsX5_bidsOver (wsV RX5 202 RX5 yX5_worthWithMore wsX5_worthWithMore) := goodIn_app (goodIn_of _ (by decide +kernel)) ggX5_bidsOver_X5_worthWithMore
theorem dX5_bidsOver_0 : decode cX5_bidsOver 0 = .ok (.aload_n 0, 1) := by decide +kernel
theorem dX5_bidsOver_1 : decode cX5_bidsOver 1 = .ok (.iconst 0, 1) := by decide +kernel
theorem dX5_bidsOver_2 : decode cX5_bidsOver 2 = .ok (.iconst 0, 1) := by decide +kernel
theorem dX5_bidsOver_3 : decode cX5_bidsOver 3 = .ok (.iconst 0, 1) := by decide +kernel
theorem dX5_bidsOver_4 : decode cX5_bidsOver 4 = .ok (.invokevirtual 202, 3) := by decide +kernel
theorem dX5_bidsOver_7 : decode cX5_bidsOver 7 = .ok (.istore_n 3, 1) := by decide +kernel
theorem dX5_bidsOver_8 : decode cX5_bidsOver 8 = .ok (.iconst 0, 1) := by decide +kernel
theorem dX5_bidsOver_9 : decode cX5_bidsOver 9 = .ok (.istore 4, 2) := by decide +kernel
theorem dX5_bidsOver_11 : decode cX5_bidsOver 11 = .ok (.iload_n 1, 1) := by decide +kernel
theorem dX5_bidsOver_12 : decode cX5_bidsOver 12 = .ok (.istore 5, 2) := by decide +kernel
theorem dX5_bidsOver_14 : decode cX5_bidsOver 14 = .ok (.iload 5, 2) := by decide +kernel
theorem dX5_bidsOver_16 : decode cX5_bidsOver 16 = .ok (.iload_n 2, 1) := by decide +kernel
theorem dX5_bidsOver_17 : decode cX5_bidsOver 17 = .ok (.if_icmp .gt 25, 3) := by decide +kernel
theorem dX5_bidsOver_20 : decode cX5_bidsOver 20 = .ok (.iload 4, 2) := by decide +kernel
theorem dX5_bidsOver_22 : decode cX5_bidsOver 22 = .ok (.aload_n 0, 1) := by decide +kernel
theorem dX5_bidsOver_23 : decode cX5_bidsOver 23 = .ok (.iload 5, 2) := by decide +kernel
theorem dX5_bidsOver_25 : decode cX5_bidsOver 25 = .ok (.iload 5, 2) := by decide +kernel
theorem dX5_bidsOver_27 : decode cX5_bidsOver 27 = .ok (.iconst 1, 1) := by decide +kernel
theorem dX5_bidsOver_28 : decode cX5_bidsOver 28 = .ok (.invokevirtual 202, 3) := by decide +kernel
theorem dX5_bidsOver_31 : decode cX5_bidsOver 31 = .ok (.iload_n 3, 1) := by decide +kernel
theorem dX5_bidsOver_32 : decode cX5_bidsOver 32 = .ok (.isub, 1) := by decide +kernel
theorem dX5_bidsOver_33 : decode cX5_bidsOver 33 = .ok (.iadd, 1) := by decide +kernel
theorem dX5_bidsOver_34 : decode cX5_bidsOver 34 = .ok (.istore 4, 2) := by decide +kernel
theorem dX5_bidsOver_36 : decode cX5_bidsOver 36 = .ok (.iinc 5 1, 3) := by decide +kernel
theorem dX5_bidsOver_39 : decode cX5_bidsOver 39 = .ok (.goto (-25), 3) := by decide +kernel
theorem dX5_bidsOver_42 : decode cX5_bidsOver 42 = .ok (.iload 4, 2) := by decide +kernel
theorem dX5_bidsOver_44 : decode cX5_bidsOver 44 = .ok (.ireturn, 1) := by decide +kernel
set_option maxRecDepth 20000 in
theorem ggX5_displacement_X5_worthWithMore : GoodIn wsX5_displacement wsX5_worthWithMore := goodIn_r _ [5, 6, 7, 8, 9, 10, 11, 12, 13, 14, 15, 16, 17, 18, 19, 20, 21, 22, 23, 24, 25, 26, 27, 28, 29, 30, 31, 32, 33, 34, 35, 36, 37, 38, 39, 40, 41, 42, 43, 4, 44, 45, 46, 47, 48, 49, 50, 51, 52, 53, 54, 55, 56, 57, 58, 59, 60, 61, 62, 63, 64, 65, 66, 67, 68, 69, 70, 71, 72, 73, 74, 75, 76, 77, 78, 79, 80, 81, 82, 83, 84, 85, 86, 87, 88, 89, 90, 91, 92, 93, 94, 95, 96, 97, 98, 99, 100, 101, 102, 103, 104, 105, 106, 107, 108, 109, 110, 111, 112, 113, 114, 115, 116, 117, 118, 119, 120, 121, 122, 123] (by decide +kernel) (by decide +kernel)
set_option maxRecDepth 20000 in
theorem gX5_displacement_X5_worthWithMore : GoodIn wsX5_displacement (wsV RX5 202 RX5 yX5_worthWithMore wsX5_worthWithMore) := goodIn_app (goodIn_of _ (by decide +kernel)) ggX5_displacement_X5_worthWithMore
theorem dX5_displacement_0 : decode cX5_displacement 0 = .ok (.aload_n 0, 1) := by decide +kernel
theorem dX5_displacement_1 : decode cX5_displacement 1 = .ok (.iconst 0, 1) := by decide +kernel
theorem dX5_displacement_2 : decode cX5_displacement 2 = .ok (.iconst 0, 1) := by decide +kernel
theorem dX5_displacement_3 : decode cX5_displacement 3 = .ok (.iconst 0, 1) := by decide +kernel
theorem dX5_displacement_4 : decode cX5_displacement 4 = .ok (.invokevirtual 202, 3) := by decide +kernel
theorem dX5_displacement_7 : decode cX5_displacement 7 = .ok (.aload_n 0, 1) := by decide +kernel
theorem dX5_displacement_8 : decode cX5_displacement 8 = .ok (.iload_n 1, 1) := by decide +kernel
theorem dX5_displacement_9 : decode cX5_displacement 9 = .ok (.iload_n 2, 1) := by decide +kernel
theorem dX5_displacement_10 : decode cX5_displacement 10 = .ok (.iload_n 3, 1) := by decide +kernel
theorem dX5_displacement_11 : decode cX5_displacement 11 = .ok (.ineg, 1) := by decide +kernel
theorem dX5_displacement_12 : decode cX5_displacement 12 = .ok (.invokevirtual 202, 3) := by decide +kernel
theorem dX5_displacement_15 : decode cX5_displacement 15 = .ok (.isub, 1) := by decide +kernel
theorem dX5_displacement_16 : decode cX5_displacement 16 = .ok (.ireturn, 1) := by decide +kernel
theorem dJ9_max_7cf53_0 : decode cJ9_max_7cf53 0 = .ok (.iload_n 0, 1) := by decide +kernel
theorem dJ9_max_7cf53_1 : decode cJ9_max_7cf53 1 = .ok (.iload_n 1, 1) := by decide +kernel
theorem dJ9_max_7cf53_2 : decode cJ9_max_7cf53 2 = .ok (.if_icmp .lt 7, 3) := by decide +kernel
theorem dJ9_max_7cf53_5 : decode cJ9_max_7cf53 5 = .ok (.iload_n 0, 1) := by decide +kernel
theorem dJ9_max_7cf53_6 : decode cJ9_max_7cf53 6 = .ok (.goto 4, 3) := by decide +kernel
theorem dJ9_max_7cf53_9 : decode cJ9_max_7cf53 9 = .ok (.iload_n 1, 1) := by decide +kernel
theorem dJ9_max_7cf53_10 : decode cJ9_max_7cf53 10 = .ok (.ireturn, 1) := by decide +kernel
theorem dJ9_min_7cf53_0 : decode cJ9_min_7cf53 0 = .ok (.iload_n 0, 1) := by decide +kernel
theorem dJ9_min_7cf53_1 : decode cJ9_min_7cf53 1 = .ok (.iload_n 1, 1) := by decide +kernel
theorem dJ9_min_7cf53_2 : decode cJ9_min_7cf53 2 = .ok (.if_icmp .gt 7, 3) := by decide +kernel
theorem dJ9_min_7cf53_5 : decode cJ9_min_7cf53 5 = .ok (.iload_n 0, 1) := by decide +kernel
theorem dJ9_min_7cf53_6 : decode cJ9_min_7cf53 6 = .ok (.goto 4, 3) := by decide +kernel
theorem dJ9_min_7cf53_9 : decode cJ9_min_7cf53 9 = .ok (.iload_n 1, 1) := by decide +kernel
theorem dJ9_min_7cf53_10 : decode cJ9_min_7cf53 10 = .ok (.ireturn, 1) := by decide +kernel
theorem dJ7_fill_53178_0 : decode cJ7_fill_53178 0 = .ok (.iconst 0, 1) := by decide +kernel
theorem dJ7_fill_53178_1 : decode cJ7_fill_53178 1 = .ok (.istore_n 2, 1) := by decide +kernel
theorem dJ7_fill_53178_2 : decode cJ7_fill_53178 2 = .ok (.aload_n 0, 1) := by decide +kernel
theorem dJ7_fill_53178_3 : decode cJ7_fill_53178 3 = .ok (.arraylength, 1) := by decide +kernel
theorem dJ7_fill_53178_4 : decode cJ7_fill_53178 4 = .ok (.istore_n 3, 1) := by decide +kernel
theorem dJ7_fill_53178_5 : decode cJ7_fill_53178 5 = .ok (.iload_n 2, 1) := by decide +kernel
theorem dJ7_fill_53178_6 : decode cJ7_fill_53178 6 = .ok (.iload_n 3, 1) := by decide +kernel
theorem dJ7_fill_53178_7 : decode cJ7_fill_53178 7 = .ok (.if_icmp .ge 13, 3) := by decide +kernel
theorem dJ7_fill_53178_10 : decode cJ7_fill_53178 10 = .ok (.aload_n 0, 1) := by decide +kernel
theorem dJ7_fill_53178_11 : decode cJ7_fill_53178 11 = .ok (.iload_n 2, 1) := by decide +kernel
theorem dJ7_fill_53178_12 : decode cJ7_fill_53178 12 = .ok (.iload_n 1, 1) := by decide +kernel
theorem dJ7_fill_53178_13 : decode cJ7_fill_53178 13 = .ok (.iastore, 1) := by decide +kernel
theorem dJ7_fill_53178_14 : decode cJ7_fill_53178 14 = .ok (.iinc 2 1, 3) := by decide +kernel
theorem dJ7_fill_53178_17 : decode cJ7_fill_53178 17 = .ok (.goto (-12), 3) := by decide +kernel
theorem dJ7_fill_53178_20 : decode cJ7_fill_53178 20 = .ok (.return_, 1) := by decide +kernel
theorem dL_part_0 : decode cL_part 0 = .ok (.iload_n 1, 1) := by decide +kernel
theorem dL_part_1 : decode cL_part 1 = .ok (.aload_n 0, 1) := by decide +kernel
theorem dL_part_2 : decode cL_part 2 = .ok (.arraylength, 1) := by decide +kernel
theorem dL_part_3 : decode cL_part 3 = .ok (.if_icmp .ge 9, 3) := by decide +kernel
theorem dL_part_6 : decode cL_part 6 = .ok (.aload_n 0, 1) := by decide +kernel
theorem dL_part_7 : decode cL_part 7 = .ok (.iload_n 1, 1) := by decide +kernel
theorem dL_part_8 : decode cL_part 8 = .ok (.iaload, 1) := by decide +kernel
theorem dL_part_9 : decode cL_part 9 = .ok (.goto 16, 3) := by decide +kernel
theorem dL_part_12 : decode cL_part 12 = .ok (.sipush 439, 3) := by decide +kernel
theorem dL_part_15 : decode cL_part 15 = .ok (.iload_n 1, 1) := by decide +kernel
theorem dL_part_16 : decode cL_part 16 = .ok (.imul, 1) := by decide +kernel
theorem dL_part_17 : decode cL_part 17 = .ok (.sipush 307, 3) := by decide +kernel
theorem dL_part_20 : decode cL_part 20 = .ok (.iload_n 1, 1) := by decide +kernel
theorem dL_part_21 : decode cL_part 21 = .ok (.imul, 1) := by decide +kernel
theorem dL_part_22 : decode cL_part 22 = .ok (.iload_n 1, 1) := by decide +kernel
theorem dL_part_23 : decode cL_part 23 = .ok (.imul, 1) := by decide +kernel
theorem dL_part_24 : decode cL_part 24 = .ok (.iadd, 1) := by decide +kernel
theorem dL_part_25 : decode cL_part 25 = .ok (.istore_n 3, 1) := by decide +kernel
theorem dL_part_26 : decode cL_part 26 = .ok (.iload_n 3, 1) := by decide +kernel
theorem dL_part_27 : decode cL_part 27 = .ok (.ldc 7, 2) := by decide +kernel
theorem dL_part_29 : decode cL_part 29 = .ok (.iand, 1) := by decide +kernel
theorem dL_part_30 : decode cL_part 30 = .ok (.iload_n 2, 1) := by decide +kernel
theorem dL_part_31 : decode cL_part 31 = .ok (.irem, 1) := by decide +kernel
theorem dL_part_32 : decode cL_part 32 = .ok (.ireturn, 1) := by decide +kernel
set_option maxRecDepth 20000 in
theorem ggL_sets_X5_setSeats : GoodIn wsL_sets wsX5_setSeats := goodIn_ca (goodIn_r _ [5, 6, 7, 8, 9, 4, 10, 11, 12, 13, 14, 15, 16, 17, 18, 19, 20, 21, 22, 23, 24, 25, 26, 27, 28, 29] (by decide +kernel) (by decide +kernel)) (goodIn_sub (fun _ h => List.mem_cons_of_mem _ (List.mem_append_right _ h)) (by decide +kernel))
set_option maxRecDepth 20000 in
theorem gL_sets_X5_setSeats : GoodIn wsL_sets (wsV RL 8 RX5 yX5_setSeats wsX5_setSeats) := goodIn_app (goodIn_of _ (by decide +kernel)) ggL_sets_X5_setSeats
theorem dL_sets_0 : decode cL_sets 0 = .ok (.aload_n 0, 1) := by decide +kernel
theorem dL_sets_1 : decode cL_sets 1 = .ok (.iload_n 1, 1) := by decide +kernel
theorem dL_sets_2 : decode cL_sets 2 = .ok (.iload_n 2, 1) := by decide +kernel
theorem dL_sets_3 : decode cL_sets 3 = .ok (.iload_n 3, 1) := by decide +kernel
theorem dL_sets_4 : decode cL_sets 4 = .ok (.invokevirtual 8, 3) := by decide +kernel
theorem dL_sets_7 : decode cL_sets 7 = .ok (.iconst 0, 1) := by decide +kernel
theorem dL_sets_8 : decode cL_sets 8 = .ok (.ireturn, 1) := by decide +kernel
set_option maxRecDepth 20000 in
theorem ggL_does_L_sets : GoodIn wsL_does wsL_sets := goodIn_ca (goodIn_r _ [7, 8, 9, 10, 11, 12, 13, 14, 15, 16, 17, 18, 19, 20, 21, 22, 239, 240, 241, 242, 243, 244, 245, 246, 247, 248, 249, 250, 251, 252] (by decide +kernel) (by decide +kernel)) (goodIn_sub (fun _ h => List.mem_cons_of_mem _ (List.mem_append_left _ (List.mem_append_left _ (List.mem_append_right _ h)))) (by decide +kernel))
set_option maxRecDepth 20000 in
theorem gL_does_L_sets : GoodIn wsL_does (va_wsS RL 14 yL_sets wsL_sets) := goodIn_app (goodIn_of _ (by decide +kernel)) ggL_does_L_sets
set_option maxRecDepth 20000 in
theorem ggL_does_X5_addProduct : GoodIn wsL_does wsX5_addProduct := goodIn_ca (goodIn_ca (goodIn_ca (goodIn_r _ [26, 27, 28, 13, 14, 29, 30, 31, 32, 33, 34, 35, 36, 37, 11, 38, 15, 16, 17, 39, 40, 41, 42, 43, 44, 45, 46, 47, 48, 49, 50, 51, 52, 53, 54, 55, 56, 57, 58, 59, 60, 61, 239, 240, 241, 242, 243, 244, 245, 246, 247, 248, 249, 250, 251, 252, 253, 254, 255, 256, 257, 258, 259] (by decide +kernel) (by decide +kernel)) (goodIn_sub (fun _ h => List.mem_cons_of_mem _ (List.mem_append_left _ (List.mem_append_right _ h))) (by decide +kernel))) (goodIn_sub (fun _ h => List.mem_cons_of_mem _ (List.mem_append_left _ (List.mem_append_left _ (List.mem_append_right _ h)))) (by decide +kernel))) (goodIn_sub (fun _ h => List.mem_cons_of_mem _ (List.mem_append_right _ h)) (by decide +kernel))
set_option maxRecDepth 20000 in
theorem gL_does_X5_addProduct : GoodIn wsL_does (wsV RL 20 RX5 yX5_addProduct wsX5_addProduct) := goodIn_app (goodIn_of _ (by decide +kernel)) ggL_does_X5_addProduct
set_option maxRecDepth 20000 in
theorem ggL_does_X5_setExpected : GoodIn wsL_does wsX5_setExpected := goodIn_ca (goodIn_ca (goodIn_r _ [65, 27, 28, 13, 14, 66, 67, 68, 11, 69, 43, 15, 16, 17, 253, 254, 255, 256, 257, 258, 259, 239, 240, 241, 242, 243, 244, 245, 246, 247, 248, 249, 250, 251, 252] (by decide +kernel) (by decide +kernel)) (goodIn_sub (fun _ h => List.mem_cons_of_mem _ (List.mem_append_left _ (List.mem_append_right _ h))) (by decide +kernel))) (goodIn_sub (fun _ h => List.mem_cons_of_mem _ (List.mem_append_left _ (List.mem_append_left _ (List.mem_append_right _ h)))) (by decide +kernel))
set_option maxRecDepth 20000 in
theorem gL_does_X5_setExpected : GoodIn wsL_does (wsV RL 24 RX5 yX5_setExpected wsX5_setExpected) := goodIn_app (goodIn_of _ (by decide +kernel)) ggL_does_X5_setExpected
set_option maxRecDepth 20000 in
theorem ggL_does_X5_setRate : GoodIn wsL_does wsX5_setRate := goodIn_ca (goodIn_r _ [73, 13, 14, 74, 15, 16, 11, 17, 239, 240, 241, 242, 243, 244, 245, 246, 247, 248, 249, 250, 251, 252] (by decide +kernel) (by decide +kernel)) (goodIn_sub (fun _ h => List.mem_cons_of_mem _ (List.mem_append_left _ (List.mem_append_left _ (List.mem_append_right _ h)))) (by decide +kernel))
set_option maxRecDepth 20000 in
theorem gL_does_X5_setRate : GoodIn wsL_does (wsV RL 28 RX5 yX5_setRate wsX5_setRate) := goodIn_app (goodIn_of _ (by decide +kernel)) ggL_does_X5_setRate
set_option maxRecDepth 20000 in
theorem ggL_does_X5_ask : GoodIn wsL_does wsX5_ask := goodIn_ca (goodIn_ca (goodIn_r _ [78, 27, 28, 29, 30, 79, 80, 81, 82, 66, 67, 68, 11, 69, 43, 83, 84, 85, 86, 87, 88, 89, 90, 91, 92, 93, 94, 95, 96, 97, 98, 99, 100, 101, 102, 103, 104, 105, 106, 74, 107, 108, 109, 110, 22, 111, 112, 113, 114, 115, 116, 117, 118, 119, 120, 121, 122, 123, 124, 125, 35, 126, 34, 127, 128, 54, 55, 129, 130, 131, 50, 56, 132, 133, 134, 135, 136, 137, 138, 139, 140, 61, 141, 142, 143, 144, 145, 146, 147, 148, 149, 150, 151, 152, 153, 154, 155, 156, 157, 158, 159, 160, 51, 52, 161, 162, 163, 164, 165, 166, 167, 168, 169, 170, 171, 172, 173, 174, 175, 15, 16, 17, 176, 177, 178, 179, 180, 181, 182, 183, 184, 185, 186, 187, 188, 189, 190, 191, 192, 193, 194, 195, 196, 47, 48, 197, 198, 199, 200, 201, 239, 240, 241, 242, 243, 244, 245, 246, 247, 248, 249, 250, 251, 252, 253, 254, 255, 256, 257, 258, 259, 260, 261, 262, 263, 264, 265, 266, 267, 268, 269, 270, 271, 272] (by decide +kernel) (by decide +kernel)) (goodIn_sub (fun _ h => List.mem_cons_of_mem _ (List.mem_append_left _ (List.mem_append_right _ h))) (by decide +kernel))) (goodIn_sub (fun _ h => List.mem_cons_of_mem _ (List.mem_append_right _ h)) (by decide +kernel))
set_option maxRecDepth 20000 in
theorem gL_does_X5_ask : GoodIn wsL_does (wsV RL 32 RX5 yX5_ask wsX5_ask) := goodIn_app (goodIn_of _ (by decide +kernel)) ggL_does_X5_ask
set_option maxRecDepth 20000 in
theorem ggL_does_X5_group : GoodIn wsL_does wsX5_group := goodIn_ca (goodIn_ca (goodIn_ca (goodIn_r _ [205, 27, 28, 13, 14, 29, 30, 79, 80, 81, 82, 36, 37, 11, 38, 15, 16, 17, 206, 207, 208, 209, 171, 172, 173, 174, 175, 162, 163, 164, 107, 108, 109, 110, 22, 87, 88, 89, 90, 91, 92, 93, 94, 95, 96, 97, 98, 99, 100, 101, 102, 111, 112, 113, 114, 115, 116, 117, 210, 211, 212, 213, 136, 137, 138, 139, 140, 61, 141, 142, 143, 144, 145, 146, 147, 148, 149, 150, 151, 152, 153, 154, 155, 156, 157, 158, 34, 159, 160, 51, 52, 161, 165, 166, 167, 168, 169, 170, 176, 177, 178, 179, 180, 181, 182, 183, 184, 185, 186, 187, 188, 189, 190, 191, 192, 193, 194, 195, 196, 47, 48, 197, 198, 199, 200, 201, 239, 240, 241, 242, 243, 244, 245, 246, 247, 248, 249, 250, 251, 252, 260, 261, 262, 263, 264, 265, 266, 267, 268, 269, 270, 271, 272, 253, 254, 255, 256, 257, 258, 259] (by decide +kernel) (by decide +kernel)) (goodIn_sub (fun _ h => List.mem_cons_of_mem _ (List.mem_append_left _ (List.mem_append_right _ h))) (by decide +kernel))) (goodIn_sub (fun _ h => List.mem_cons_of_mem _ (List.mem_append_left _ (List.mem_append_left _ (List.mem_append_right _ h)))) (by decide +kernel))) (goodIn_sub (fun _ h => List.mem_cons_of_mem _ (List.mem_append_right _ h)) (by decide +kernel))
set_option maxRecDepth 20000 in
theorem gL_does_X5_group : GoodIn wsL_does (wsV RL 35 RX5 yX5_group wsX5_group) := goodIn_app (goodIn_of _ (by decide +kernel)) ggL_does_X5_group
set_option maxRecDepth 20000 in
theorem ggL_does_X5_cancel : GoodIn wsL_does wsX5_cancel := goodIn_ca (goodIn_ca (goodIn_r _ [217, 27, 28, 29, 30, 91, 92, 93, 11, 94, 79, 95, 260, 261, 262, 263, 264, 239, 240, 241, 242, 243, 244, 245, 246, 247, 248, 249, 250, 251, 252] (by decide +kernel) (by decide +kernel)) (goodIn_sub (fun _ h => List.mem_cons_of_mem _ (List.mem_append_left _ (List.mem_append_right _ h))) (by decide +kernel))) (goodIn_sub (fun _ h => List.mem_cons_of_mem _ (List.mem_append_right _ h)) (by decide +kernel))
set_option maxRecDepth 20000 in
theorem gL_does_X5_cancel : GoodIn wsL_does (wsV RL 39 RX5 yX5_cancel wsX5_cancel) := goodIn_app (goodIn_of _ (by decide +kernel)) ggL_does_X5_cancel
set_option maxRecDepth 20000 in
theorem ggL_does_X5_endDay : GoodIn wsL_does wsX5_endDay := goodIn_ca (goodIn_r _ [221, 13, 14, 222, 79, 15, 16, 11, 17, 223, 224, 225, 226, 175, 162, 163, 164, 87, 88, 89, 90, 91, 92, 93, 94, 95, 96, 82, 97, 98, 99, 100, 101, 102, 107, 108, 109, 110, 22, 227, 228, 229, 230, 231, 232, 233, 234, 35, 43, 235, 34, 236, 237, 52, 238, 180, 181, 50, 53, 51, 239, 240, 241, 242, 243, 244, 245, 246, 247, 248, 249, 250, 251, 252, 260, 261, 262, 263, 264, 253, 254, 255, 256, 257, 258, 259] (by decide +kernel) (by decide +kernel)) (goodIn_sub (fun _ h => List.mem_cons_of_mem _ (List.mem_append_left _ (List.mem_append_left _ (List.mem_append_right _ h)))) (by decide +kernel))
set_option maxRecDepth 20000 in
theorem gL_does_X5_endDay : GoodIn wsL_does (wsV RL 42 RX5 yX5_endDay wsX5_endDay) := goodIn_app (goodIn_of _ (by decide +kernel)) ggL_does_X5_endDay
theorem dL_does_0 : decode cL_does 0 = .ok (.iload_n 1, 1) := by decide +kernel
theorem dL_does_1 : decode cL_does 1 = .ok (.ifCond .ne 14, 3) := by decide +kernel
theorem dL_does_4 : decode cL_does 4 = .ok (.aload_n 0, 1) := by decide +kernel
theorem dL_does_5 : decode cL_does 5 = .ok (.iload_n 2, 1) := by decide +kernel
theorem dL_does_6 : decode cL_does 6 = .ok (.iload_n 3, 1) := by decide +kernel
theorem dL_does_7 : decode cL_does 7 = .ok (.iload 4, 2) := by decide +kernel
theorem dL_does_9 : decode cL_does 9 = .ok (.invokestatic 14, 3) := by decide +kernel
theorem dL_does_12 : decode cL_does 12 = .ok (.goto 96, 3) := by decide +kernel
theorem dL_does_15 : decode cL_does 15 = .ok (.iload_n 1, 1) := by decide +kernel
theorem dL_does_16 : decode cL_does 16 = .ok (.iconst 1, 1) := by decide +kernel
theorem dL_does_17 : decode cL_does 17 = .ok (.if_icmp .ne 14, 3) := by decide +kernel
theorem dL_does_20 : decode cL_does 20 = .ok (.aload_n 0, 1) := by decide +kernel
theorem dL_does_21 : decode cL_does 21 = .ok (.iload_n 2, 1) := by decide +kernel
theorem dL_does_22 : decode cL_does 22 = .ok (.iload_n 3, 1) := by decide +kernel
theorem dL_does_23 : decode cL_does 23 = .ok (.iload 4, 2) := by decide +kernel
theorem dL_does_25 : decode cL_does 25 = .ok (.invokevirtual 20, 3) := by decide +kernel
theorem dL_does_28 : decode cL_does 28 = .ok (.goto 80, 3) := by decide +kernel
theorem dL_does_31 : decode cL_does 31 = .ok (.iload_n 1, 1) := by decide +kernel
theorem dL_does_32 : decode cL_does 32 = .ok (.iconst 2, 1) := by decide +kernel
theorem dL_does_33 : decode cL_does 33 = .ok (.if_icmp .ne 12, 3) := by decide +kernel
theorem dL_does_36 : decode cL_does 36 = .ok (.aload_n 0, 1) := by decide +kernel
theorem dL_does_37 : decode cL_does 37 = .ok (.iload_n 2, 1) := by decide +kernel
theorem dL_does_38 : decode cL_does 38 = .ok (.iload_n 3, 1) := by decide +kernel
theorem dL_does_39 : decode cL_does 39 = .ok (.invokevirtual 24, 3) := by decide +kernel
theorem dL_does_42 : decode cL_does 42 = .ok (.goto 66, 3) := by decide +kernel
theorem dL_does_45 : decode cL_does 45 = .ok (.iload_n 1, 1) := by decide +kernel
theorem dL_does_46 : decode cL_does 46 = .ok (.iconst 3, 1) := by decide +kernel
theorem dL_does_47 : decode cL_does 47 = .ok (.if_icmp .ne 11, 3) := by decide +kernel
theorem dL_does_50 : decode cL_does 50 = .ok (.aload_n 0, 1) := by decide +kernel
theorem dL_does_51 : decode cL_does 51 = .ok (.iload_n 2, 1) := by decide +kernel
theorem dL_does_52 : decode cL_does 52 = .ok (.invokevirtual 28, 3) := by decide +kernel
theorem dL_does_55 : decode cL_does 55 = .ok (.goto 53, 3) := by decide +kernel
theorem dL_does_58 : decode cL_does 58 = .ok (.iload_n 1, 1) := by decide +kernel
theorem dL_does_59 : decode cL_does 59 = .ok (.iconst 4, 1) := by decide +kernel
theorem dL_does_60 : decode cL_does 60 = .ok (.if_icmp .ne 11, 3) := by decide +kernel
theorem dL_does_63 : decode cL_does 63 = .ok (.aload_n 0, 1) := by decide +kernel
theorem dL_does_64 : decode cL_does 64 = .ok (.iload_n 2, 1) := by decide +kernel
theorem dL_does_65 : decode cL_does 65 = .ok (.invokevirtual 32, 3) := by decide +kernel
theorem dL_does_68 : decode cL_does 68 = .ok (.goto 40, 3) := by decide +kernel
theorem dL_does_71 : decode cL_does 71 = .ok (.iload_n 1, 1) := by decide +kernel
theorem dL_does_72 : decode cL_does 72 = .ok (.iconst 5, 1) := by decide +kernel
theorem dL_does_73 : decode cL_does 73 = .ok (.if_icmp .ne 16, 3) := by decide +kernel
theorem dL_does_76 : decode cL_does 76 = .ok (.aload_n 0, 1) := by decide +kernel
theorem dL_does_77 : decode cL_does 77 = .ok (.iload_n 2, 1) := by decide +kernel
theorem dL_does_78 : decode cL_does 78 = .ok (.iload_n 3, 1) := by decide +kernel
theorem dL_does_79 : decode cL_does 79 = .ok (.iload 4, 2) := by decide +kernel
theorem dL_does_81 : decode cL_does 81 = .ok (.iload 5, 2) := by decide +kernel
theorem dL_does_83 : decode cL_does 83 = .ok (.invokevirtual 35, 3) := by decide +kernel
theorem dL_does_86 : decode cL_does 86 = .ok (.goto 22, 3) := by decide +kernel
theorem dL_does_89 : decode cL_does 89 = .ok (.iload_n 1, 1) := by decide +kernel
theorem dL_does_90 : decode cL_does 90 = .ok (.bipush 6, 2) := by decide +kernel
theorem dL_does_92 : decode cL_does 92 = .ok (.if_icmp .ne 11, 3) := by decide +kernel
theorem dL_does_95 : decode cL_does 95 = .ok (.aload_n 0, 1) := by decide +kernel
theorem dL_does_96 : decode cL_does 96 = .ok (.iload_n 2, 1) := by decide +kernel
theorem dL_does_97 : decode cL_does 97 = .ok (.invokevirtual 39, 3) := by decide +kernel
theorem dL_does_100 : decode cL_does 100 = .ok (.goto 8, 3) := by decide +kernel
theorem dL_does_103 : decode cL_does 103 = .ok (.aload_n 0, 1) := by decide +kernel
theorem dL_does_104 : decode cL_does 104 = .ok (.iload_n 2, 1) := by decide +kernel
theorem dL_does_105 : decode cL_does 105 = .ok (.invokevirtual 42, 3) := by decide +kernel
theorem dL_does_108 : decode cL_does 108 = .ok (.ireturn, 1) := by decide +kernel
theorem dL_does_109 : decode cL_does 109 = .ok (.astore 6, 2) := by decide +kernel
theorem dL_does_111 : decode cL_does 111 = .ok (.bipush (-30), 2) := by decide +kernel
theorem dL_does_113 : decode cL_does 113 = .ok (.ireturn, 1) := by decide +kernel
theorem dL_does_114 : decode cL_does 114 = .ok (.astore 6, 2) := by decide +kernel
theorem dL_does_116 : decode cL_does 116 = .ok (.bipush (-20), 2) := by decide +kernel
theorem dL_does_118 : decode cL_does 118 = .ok (.ireturn, 1) := by decide +kernel
theorem dL_does_119 : decode cL_does 119 = .ok (.astore 6, 2) := by decide +kernel
theorem dL_does_121 : decode cL_does 121 = .ok (.bipush (-10), 2) := by decide +kernel
theorem dL_does_123 : decode cL_does 123 = .ok (.ireturn, 1) := by decide +kernel
set_option maxRecDepth 20000 in
theorem ggL_asks_X5_booked : GoodIn wsL_asks wsX5_booked := goodIn_ca (goodIn_r _ [7, 8, 9, 10, 11, 6, 12, 13, 14, 15, 16, 17, 18, 19, 20, 21, 22, 23, 24, 25, 26, 27, 28, 29, 30, 31, 32, 33, 175, 176, 177, 178, 179, 180, 181, 182, 183, 184, 185, 186, 187, 188, 189, 190, 191, 192, 193] (by decide +kernel) (by decide +kernel)) (goodIn_sub (fun _ h => List.mem_cons_of_mem _ (List.mem_append_left _ (List.mem_append_right _ h))) (by decide +kernel))
set_option maxRecDepth 20000 in
theorem gL_asks_X5_booked : GoodIn wsL_asks (wsV RL 51 RX5 yX5_booked wsX5_booked) := goodIn_app (goodIn_of _ (by decide +kernel)) ggL_asks_X5_booked
set_option maxRecDepth 20000 in
theorem ggL_asks_X5_authorised : GoodIn wsL_asks wsX5_authorised := goodIn_ca (goodIn_r _ [37, 8, 9, 10, 11, 6, 12, 13, 14, 15, 38, 39, 40, 41, 42, 43, 44, 45, 46, 47, 175, 176, 177, 178, 179, 180, 181, 182, 183, 184, 185, 186, 187, 188] (by decide +kernel) (by decide +kernel)) (goodIn_sub (fun _ h => List.mem_cons_of_mem _ (List.mem_append_left _ (List.mem_append_right _ h))) (by decide +kernel))
set_option maxRecDepth 20000 in
theorem gL_asks_X5_authorised : GoodIn wsL_asks (wsV RL 54 RX5 yX5_authorised wsX5_authorised) := goodIn_app (goodIn_of _ (by decide +kernel)) ggL_asks_X5_authorised
set_option maxRecDepth 20000 in
theorem ggL_asks_X5_protectedSeats : GoodIn wsL_asks wsX5_protectedSeats := goodIn_ca (goodIn_ca (goodIn_r _ [51, 8, 9, 52, 53, 10, 11, 6, 12, 13, 14, 15, 54, 55, 56, 57, 58, 59, 60, 61, 62, 63, 64, 65, 66, 67, 68, 69, 70, 175, 176, 177, 178, 179, 180, 181, 182, 183, 184, 185, 186, 187, 188, 194, 195, 196, 197, 198, 199, 200] (by decide +kernel) (by decide +kernel)) (goodIn_sub (fun _ h => List.mem_cons_of_mem _ (List.mem_append_left _ (List.mem_append_right _ h))) (by decide +kernel))) (goodIn_sub (fun _ h => List.mem_cons_of_mem _ (List.mem_append_right _ h)) (by decide +kernel))
set_option maxRecDepth 20000 in
theorem gL_asks_X5_protectedSeats : GoodIn wsL_asks (wsV RL 57 RX5 yX5_protectedSeats wsX5_protectedSeats) := goodIn_app (goodIn_of _ (by decide +kernel)) ggL_asks_X5_protectedSeats
set_option maxRecDepth 20000 in
theorem ggL_asks_X5_bid : GoodIn wsL_asks wsX5_bid := goodIn_ca (goodIn_r _ [74, 8, 9, 10, 11, 6, 12, 13, 14, 15, 75, 76, 77, 78, 79, 80, 81, 82, 83, 84, 85, 86, 87, 88, 89, 90, 91, 92, 93, 94, 95, 96, 97, 98, 99, 100, 101, 102, 61, 103, 104, 105, 106, 107, 108, 109, 110, 111, 112, 113, 114, 115, 116, 117, 118, 119, 120, 121, 43, 44, 45, 46, 47, 16, 17, 18, 19, 20, 21, 22, 23, 24, 25, 26, 27, 28, 29, 30, 31, 32, 33, 122, 123, 124, 125, 126, 127, 128, 129, 130, 131, 132, 133, 134, 135, 136, 137, 138, 139, 175, 176, 177, 178, 179, 180, 181, 182, 183, 184, 185, 186, 187, 188, 201, 202, 203, 204, 205, 206, 207, 208, 194, 195, 196, 197, 198, 199, 200, 189, 190, 191, 192, 193] (by decide +kernel) (by decide +kernel)) (goodIn_sub (fun _ h => List.mem_cons_of_mem _ (List.mem_append_left _ (List.mem_append_right _ h))) (by decide +kernel))
set_option maxRecDepth 20000 in
theorem gL_asks_X5_bid : GoodIn wsL_asks (wsV RL 60 RX5 yX5_bid wsX5_bid) := goodIn_app (goodIn_of _ (by decide +kernel)) ggL_asks_X5_bid
set_option maxRecDepth 20000 in
theorem ggL_asks_X5_displaced : GoodIn wsL_asks wsX5_displaced := goodIn_ca (goodIn_ca (goodIn_r _ [143, 8, 9, 52, 53, 10, 11, 6, 12, 13, 14, 15, 144, 145, 146, 147, 117, 118, 119, 120, 121, 108, 109, 110, 43, 44, 45, 46, 47, 16, 17, 18, 19, 20, 21, 22, 23, 24, 25, 26, 27, 28, 29, 30, 31, 32, 33, 148, 149, 150, 151, 79, 80, 81, 82, 83, 84, 85, 86, 87, 88, 89, 90, 91, 92, 93, 94, 95, 96, 97, 98, 99, 100, 101, 102, 61, 103, 104, 105, 106, 107, 111, 112, 113, 114, 115, 116, 122, 123, 124, 125, 126, 127, 128, 129, 130, 131, 132, 133, 134, 135, 136, 137, 138, 139, 175, 176, 177, 178, 179, 180, 181, 182, 183, 184, 185, 186, 187, 188, 189, 190, 191, 192, 193, 201, 202, 203, 204, 205, 206, 207, 208, 194, 195, 196, 197, 198, 199, 200] (by decide +kernel) (by decide +kernel)) (goodIn_sub (fun _ h => List.mem_cons_of_mem _ (List.mem_append_left _ (List.mem_append_right _ h))) (by decide +kernel))) (goodIn_sub (fun _ h => List.mem_cons_of_mem _ (List.mem_append_right _ h)) (by decide +kernel))
set_option maxRecDepth 20000 in
theorem gL_asks_X5_displaced : GoodIn wsL_asks (wsV RL 63 RX5 yX5_displaced wsX5_displaced) := goodIn_app (goodIn_of _ (by decide +kernel)) ggL_asks_X5_displaced
set_option maxRecDepth 20000 in
theorem ggL_asks_X5_expected : GoodIn wsL_asks wsX5_expected := goodIn_ca (goodIn_r _ [155, 8, 9, 156, 157, 158, 6, 159, 58, 194, 195, 196, 197, 198, 199, 200, 175, 176, 177, 178, 179, 180, 181, 182, 183, 184, 185, 186, 187, 188] (by decide +kernel) (by decide +kernel)) (goodIn_sub (fun _ h => List.mem_cons_of_mem _ (List.mem_append_left _ (List.mem_append_right _ h))) (by decide +kernel))
set_option maxRecDepth 20000 in
theorem gL_asks_X5_expected : GoodIn wsL_asks (wsV RL 66 RX5 yX5_expected wsX5_expected) := goodIn_app (goodIn_of _ (by decide +kernel)) ggL_asks_X5_expected
set_option maxRecDepth 20000 in
theorem ggL_asks_X5_asked : GoodIn wsL_asks wsX5_asked := goodIn_ca (goodIn_r _ [163, 8, 9, 156, 157, 158, 6, 159, 58, 194, 195, 196, 197, 198, 199, 200, 175, 176, 177, 178, 179, 180, 181, 182, 183, 184, 185, 186, 187, 188] (by decide +kernel) (by decide +kernel)) (goodIn_sub (fun _ h => List.mem_cons_of_mem _ (List.mem_append_left _ (List.mem_append_right _ h))) (by decide +kernel))
set_option maxRecDepth 20000 in
theorem gL_asks_X5_asked : GoodIn wsL_asks (wsV RL 69 RX5 yX5_asked wsX5_asked) := goodIn_app (goodIn_of _ (by decide +kernel)) ggL_asks_X5_asked
set_option maxRecDepth 20000 in
theorem ggL_asks_X5_refused : GoodIn wsL_asks wsX5_refused := goodIn_ca (goodIn_r _ [167, 52, 53, 168, 169, 170, 175, 176, 177, 178, 179, 180, 181, 182, 183, 184, 185, 186, 187, 188] (by decide +kernel) (by decide +kernel)) (goodIn_sub (fun _ h => List.mem_cons_of_mem _ (List.mem_append_right _ h)) (by decide +kernel))
set_option maxRecDepth 20000 in
theorem gL_asks_X5_refused : GoodIn wsL_asks (wsV RL 72 RX5 yX5_refused wsX5_refused) := goodIn_app (goodIn_of _ (by decide +kernel)) ggL_asks_X5_refused
set_option maxRecDepth 20000 in
theorem ggL_asks_X5_average : GoodIn wsL_asks wsX5_average := goodIn_ca (goodIn_r _ [174, 8, 9, 59, 156, 157, 158, 6, 159, 58, 175, 176, 177, 178, 179, 180, 181, 182, 183, 184, 185, 186, 187, 188, 194, 195, 196, 197, 198, 199, 200] (by decide +kernel) (by decide +kernel)) (goodIn_sub (fun _ h => List.mem_cons_of_mem _ (List.mem_append_left _ (List.mem_append_right _ h))) (by decide +kernel))
set_option maxRecDepth 20000 in
theorem gL_asks_X5_average : GoodIn wsL_asks (wsV RL 75 RX5 yX5_average wsX5_average) := goodIn_app (goodIn_of _ (by decide +kernel)) ggL_asks_X5_average
