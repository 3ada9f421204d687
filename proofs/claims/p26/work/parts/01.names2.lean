theorem dX2_protectedAgainst_52 : decode cX2_protectedAgainst 52 = .ok (.ifCond .lt 6, 3) := by decide +kernel
theorem dX2_protectedAgainst_55 : decode cX2_protectedAgainst 55 = .ok (.iload 7, 2) := by decide +kernel
theorem dX2_protectedAgainst_57 : decode cX2_protectedAgainst 57 = .ok (.ireturn, 1) := by decide +kernel
theorem dX2_protectedAgainst_58 : decode cX2_protectedAgainst 58 = .ok (.iinc 7 (-1), 3) := by decide +kernel
theorem dX2_protectedAgainst_61 : decode cX2_protectedAgainst 61 = .ok (.goto (-37), 3) := by decide +kernel
theorem dX2_protectedAgainst_64 : decode cX2_protectedAgainst 64 = .ok (.iconst 0, 1) := by decide +kernel
theorem dX2_protectedAgainst_65 : decode cX2_protectedAgainst 65 = .ok (.ireturn, 1) := by decide +kernel
theorem dX2_learn_0 : decode cX2_learn 0 = .ok (.aload_n 0, 1) := by decide +kernel
theorem dX2_learn_1 : decode cX2_learn 1 = .ok (.getfield 19, 3) := by decide +kernel
theorem dX2_learn_4 : decode cX2_learn 4 = .ok (.bipush 20, 2) := by decide +kernel
theorem dX2_learn_6 : decode cX2_learn 6 = .ok (.invokestatic 40, 3) := by decide +kernel
theorem dX2_learn_9 : decode cX2_learn 9 = .ok (.istore_n 2, 1) := by decide +kernel
theorem dX2_learn_10 : decode cX2_learn 10 = .ok (.iload_n 2, 1) := by decide +kernel
theorem dX2_learn_11 : decode cX2_learn 11 = .ok (.ifCond .lt 22, 3) := by decide +kernel
theorem dX2_learn_14 : decode cX2_learn 14 = .ok (.iload_n 2, 1) := by decide +kernel
theorem dX2_learn_15 : decode cX2_learn 15 = .ok (.aload_n 0, 1) := by decide +kernel
theorem dX2_learn_16 : decode cX2_learn 16 = .ok (.getfield 9, 3) := by decide +kernel
theorem dX2_learn_19 : decode cX2_learn 19 = .ok (.arraylength, 1) := by decide +kernel
theorem dX2_learn_20 : decode cX2_learn 20 = .ok (.if_icmp .ge 13, 3) := by decide +kernel
theorem dX2_learn_23 : decode cX2_learn 23 = .ok (.aload_n 0, 1) := by decide +kernel
theorem dX2_learn_24 : decode cX2_learn 24 = .ok (.getfield 9, 3) := by decide +kernel
theorem dX2_learn_27 : decode cX2_learn 27 = .ok (.iload_n 2, 1) := by decide +kernel
theorem dX2_learn_28 : decode cX2_learn 28 = .ok (.dup2, 1) := by decide +kernel
theorem dX2_learn_29 : decode cX2_learn 29 = .ok (.iaload, 1) := by decide +kernel
theorem dX2_learn_30 : decode cX2_learn 30 = .ok (.iconst 1, 1) := by decide +kernel
theorem dX2_learn_31 : decode cX2_learn 31 = .ok (.iadd, 1) := by decide +kernel
theorem dX2_learn_32 : decode cX2_learn 32 = .ok (.iastore, 1) := by decide +kernel
theorem dX2_learn_33 : decode cX2_learn 33 = .ok (.aload_n 0, 1) := by decide +kernel
theorem dX2_learn_34 : decode cX2_learn 34 = .ok (.dup, 1) := by decide +kernel
theorem dX2_learn_35 : decode cX2_learn 35 = .ok (.getfield 22, 3) := by decide +kernel
theorem dX2_learn_38 : decode cX2_learn 38 = .ok (.aload_n 0, 1) := by decide +kernel
theorem dX2_learn_39 : decode cX2_learn 39 = .ok (.getfield 19, 3) := by decide +kernel
theorem dX2_learn_42 : decode cX2_learn 42 = .ok (.iadd, 1) := by decide +kernel
theorem dX2_learn_43 : decode cX2_learn 43 = .ok (.putfield 22, 3) := by decide +kernel
theorem dX2_learn_46 : decode cX2_learn 46 = .ok (.aload_n 0, 1) := by decide +kernel
theorem dX2_learn_47 : decode cX2_learn 47 = .ok (.iconst 0, 1) := by decide +kernel
theorem dX2_learn_48 : decode cX2_learn 48 = .ok (.putfield 19, 3) := by decide +kernel
theorem dX2_learn_51 : decode cX2_learn 51 = .ok (.iload_n 1, 1) := by decide +kernel
theorem dX2_learn_52 : decode cX2_learn 52 = .ok (.ifCond .le 13, 3) := by decide +kernel
theorem dX2_learn_55 : decode cX2_learn 55 = .ok (.aload_n 0, 1) := by decide +kernel
theorem dX2_learn_56 : decode cX2_learn 56 = .ok (.aload_n 0, 1) := by decide +kernel
theorem dX2_learn_57 : decode cX2_learn 57 = .ok (.getfield 22, 3) := by decide +kernel
theorem dX2_learn_60 : decode cX2_learn 60 = .ok (.iload_n 1, 1) := by decide +kernel
theorem dX2_learn_61 : decode cX2_learn 61 = .ok (.idiv, 1) := by decide +kernel
theorem dX2_learn_62 : decode cX2_learn 62 = .ok (.putfield 15, 3) := by decide +kernel
theorem dX2_learn_65 : decode cX2_learn 65 = .ok (.return_, 1) := by decide +kernel
theorem dX3_init_0 : decode cX3_init 0 = .ok (.aload_n 0, 1) := by decide +kernel
theorem dX3_init_1 : decode cX3_init 1 = .ok (.invokespecial 3, 3) := by decide +kernel
theorem dX3_init_4 : decode cX3_init 4 = .ok (.aload_n 0, 1) := by decide +kernel
theorem dX3_init_5 : decode cX3_init 5 = .ok (.bipush 12, 2) := by decide +kernel
theorem dX3_init_7 : decode cX3_init 7 = .ok (.newarray .int, 2) := by decide +kernel
theorem dX3_init_9 : decode cX3_init 9 = .ok (.putfield 9, 3) := by decide +kernel
theorem dX3_init_12 : decode cX3_init 12 = .ok (.aload_n 0, 1) := by decide +kernel
theorem dX3_init_13 : decode cX3_init 13 = .ok (.iconst 0, 1) := by decide +kernel
theorem dX3_init_14 : decode cX3_init 14 = .ok (.putfield 15, 3) := by decide +kernel
theorem dX3_init_17 : decode cX3_init 17 = .ok (.return_, 1) := by decide +kernel
theorem dX3_add_0 : decode cX3_add 0 = .ok (.iconst 0, 1) := by decide +kernel
theorem dX3_add_1 : decode cX3_add 1 = .ok (.istore_n 3, 1) := by decide +kernel
theorem dX3_add_2 : decode cX3_add 2 = .ok (.iload_n 3, 1) := by decide +kernel
theorem dX3_add_3 : decode cX3_add 3 = .ok (.iload_n 2, 1) := by decide +kernel
theorem dX3_add_4 : decode cX3_add 4 = .ok (.if_icmp .ge 62, 3) := by decide +kernel
theorem dX3_add_7 : decode cX3_add 7 = .ok (.aload_n 0, 1) := by decide +kernel
theorem dX3_add_8 : decode cX3_add 8 = .ok (.getfield 15, 3) := by decide +kernel
theorem dX3_add_11 : decode cX3_add 11 = .ok (.ifCond .lt 55, 3) := by decide +kernel
theorem dX3_add_14 : decode cX3_add 14 = .ok (.aload_n 0, 1) := by decide +kernel
theorem dX3_add_15 : decode cX3_add 15 = .ok (.getfield 15, 3) := by decide +kernel
theorem dX3_add_18 : decode cX3_add 18 = .ok (.iconst 1, 1) := by decide +kernel
theorem dX3_add_19 : decode cX3_add 19 = .ok (.iadd, 1) := by decide +kernel
theorem dX3_add_20 : decode cX3_add 20 = .ok (.aload_n 0, 1) := by decide +kernel
theorem dX3_add_21 : decode cX3_add 21 = .ok (.getfield 9, 3) := by decide +kernel
theorem dX3_add_24 : decode cX3_add 24 = .ok (.arraylength, 1) := by decide +kernel
theorem dX3_add_25 : decode cX3_add 25 = .ok (.if_icmp .ge 41, 3) := by decide +kernel
theorem dX3_add_28 : decode cX3_add 28 = .ok (.aload_n 0, 1) := by decide +kernel
theorem dX3_add_29 : decode cX3_add 29 = .ok (.getfield 9, 3) := by decide +kernel
theorem dX3_add_32 : decode cX3_add 32 = .ok (.aload_n 0, 1) := by decide +kernel
theorem dX3_add_33 : decode cX3_add 33 = .ok (.getfield 15, 3) := by decide +kernel
theorem dX3_add_36 : decode cX3_add 36 = .ok (.iconst 1, 1) := by decide +kernel
theorem dX3_add_37 : decode cX3_add 37 = .ok (.iadd, 1) := by decide +kernel
theorem dX3_add_38 : decode cX3_add 38 = .ok (.aload_n 0, 1) := by decide +kernel
theorem dX3_add_39 : decode cX3_add 39 = .ok (.getfield 9, 3) := by decide +kernel
theorem dX3_add_42 : decode cX3_add 42 = .ok (.aload_n 0, 1) := by decide +kernel
theorem dX3_add_43 : decode cX3_add 43 = .ok (.getfield 15, 3) := by decide +kernel
theorem dX3_add_46 : decode cX3_add 46 = .ok (.iaload, 1) := by decide +kernel
theorem dX3_add_47 : decode cX3_add 47 = .ok (.iload_n 1, 1) := by decide +kernel
theorem dX3_add_48 : decode cX3_add 48 = .ok (.iadd, 1) := by decide +kernel
theorem dX3_add_49 : decode cX3_add 49 = .ok (.iastore, 1) := by decide +kernel
theorem dX3_add_50 : decode cX3_add 50 = .ok (.aload_n 0, 1) := by decide +kernel
theorem dX3_add_51 : decode cX3_add 51 = .ok (.dup, 1) := by decide +kernel
theorem dX3_add_52 : decode cX3_add 52 = .ok (.getfield 15, 3) := by decide +kernel
theorem dX3_add_55 : decode cX3_add 55 = .ok (.iconst 1, 1) := by decide +kernel
theorem dX3_add_56 : decode cX3_add 56 = .ok (.iadd, 1) := by decide +kernel
theorem dX3_add_57 : decode cX3_add 57 = .ok (.putfield 15, 3) := by decide +kernel
theorem dX3_add_60 : decode cX3_add 60 = .ok (.iinc 3 1, 3) := by decide +kernel
theorem dX3_add_63 : decode cX3_add 63 = .ok (.goto (-61), 3) := by decide +kernel
theorem dX3_add_66 : decode cX3_add 66 = .ok (.return_, 1) := by decide +kernel
theorem dX3_mostFor_0 : decode cX3_mostFor 0 = .ok (.iload_n 1, 1) := by decide +kernel
theorem dX3_mostFor_1 : decode cX3_mostFor 1 = .ok (.aload_n 0, 1) := by decide +kernel
theorem dX3_mostFor_2 : decode cX3_mostFor 2 = .ok (.getfield 15, 3) := by decide +kernel
theorem dX3_mostFor_5 : decode cX3_mostFor 5 = .ok (.if_icmp .ge 7, 3) := by decide +kernel
theorem dX3_mostFor_8 : decode cX3_mostFor 8 = .ok (.iload_n 1, 1) := by decide +kernel
theorem dX3_mostFor_9 : decode cX3_mostFor 9 = .ok (.goto 7, 3) := by decide +kernel
theorem dX3_mostFor_12 : decode cX3_mostFor 12 = .ok (.aload_n 0, 1) := by decide +kernel
theorem dX3_mostFor_13 : decode cX3_mostFor 13 = .ok (.getfield 15, 3) := by decide +kernel
theorem dX3_mostFor_16 : decode cX3_mostFor 16 = .ok (.istore_n 2, 1) := by decide +kernel
theorem dX3_mostFor_17 : decode cX3_mostFor 17 = .ok (.iload_n 2, 1) := by decide +kernel
theorem dX3_mostFor_18 : decode cX3_mostFor 18 = .ok (.ifCond .lt 21, 3) := by decide +kernel
theorem dX3_mostFor_21 : decode cX3_mostFor 21 = .ok (.iload_n 2, 1) := by decide +kernel
theorem dX3_mostFor_22 : decode cX3_mostFor 22 = .ok (.aload_n 0, 1) := by decide +kernel
theorem dX3_mostFor_23 : decode cX3_mostFor 23 = .ok (.getfield 9, 3) := by decide +kernel
theorem dX3_mostFor_26 : decode cX3_mostFor 26 = .ok (.arraylength, 1) := by decide +kernel
theorem dX3_mostFor_27 : decode cX3_mostFor 27 = .ok (.if_icmp .ge 12, 3) := by decide +kernel
theorem dX3_mostFor_30 : decode cX3_mostFor 30 = .ok (.aload_n 0, 1) := by decide +kernel
theorem dX3_mostFor_31 : decode cX3_mostFor 31 = .ok (.getfield 9, 3) := by decide +kernel
theorem dX3_mostFor_34 : decode cX3_mostFor 34 = .ok (.iload_n 2, 1) := by decide +kernel
theorem dX3_mostFor_35 : decode cX3_mostFor 35 = .ok (.iaload, 1) := by decide +kernel
theorem dX3_mostFor_36 : decode cX3_mostFor 36 = .ok (.goto 4, 3) := by decide +kernel
theorem dX3_mostFor_39 : decode cX3_mostFor 39 = .ok (.iconst 0, 1) := by decide +kernel
theorem dX3_mostFor_40 : decode cX3_mostFor 40 = .ok (.ireturn, 1) := by decide +kernel
theorem dX4_init_0 : decode cX4_init 0 = .ok (.aload_n 0, 1) := by decide +kernel
theorem dX4_init_1 : decode cX4_init 1 = .ok (.invokespecial 3, 3) := by decide +kernel
theorem dX4_init_4 : decode cX4_init 4 = .ok (.aload_n 0, 1) := by decide +kernel
theorem dX4_init_5 : decode cX4_init 5 = .ok (.sipush 1331, 3) := by decide +kernel
theorem dX4_init_8 : decode cX4_init 8 = .ok (.newarray .int, 2) := by decide +kernel
theorem dX4_init_10 : decode cX4_init 10 = .ok (.putfield 11, 3) := by decide +kernel
theorem dX4_init_13 : decode cX4_init 13 = .ok (.return_, 1) := by decide +kernel
theorem dX4_cellOf_0 : decode cX4_cellOf 0 = .ok (.iload_n 0, 1) := by decide +kernel
theorem dX4_cellOf_1 : decode cX4_cellOf 1 = .ok (.bipush 11, 2) := by decide +kernel
theorem dX4_cellOf_3 : decode cX4_cellOf 3 = .ok (.imul, 1) := by decide +kernel
theorem dX4_cellOf_4 : decode cX4_cellOf 4 = .ok (.iload_n 1, 1) := by decide +kernel
theorem dX4_cellOf_5 : decode cX4_cellOf 5 = .ok (.iadd, 1) := by decide +kernel
theorem dX4_cellOf_6 : decode cX4_cellOf 6 = .ok (.bipush 11, 2) := by decide +kernel
theorem dX4_cellOf_8 : decode cX4_cellOf 8 = .ok (.imul, 1) := by decide +kernel
theorem dX4_cellOf_9 : decode cX4_cellOf 9 = .ok (.iload_n 2, 1) := by decide +kernel
theorem dX4_cellOf_10 : decode cX4_cellOf 10 = .ok (.iadd, 1) := by decide +kernel
theorem dX4_cellOf_11 : decode cX4_cellOf 11 = .ok (.ireturn, 1) := by decide +kernel
set_option maxRecDepth 20000 in
theorem ggX4_clear_J7_fill_53178 : GoodIn wsX4_clear wsJ7_fill_53178 := goodIn_r _ [5] (by decide +kernel) (by decide +kernel)
set_option maxRecDepth 20000 in
theorem gX4_clear_J7_fill_53178 : GoodIn wsX4_clear (va_wsS RX4 15 yJ7_fill_53178 wsJ7_fill_53178) := goodIn_app (goodIn_of _ (by decide +kernel)) ggX4_clear_J7_fill_53178
theorem dX4_clear_0 : decode cX4_clear 0 = .ok (.aload_n 0, 1) := by decide +kernel
theorem dX4_clear_1 : decode cX4_clear 1 = .ok (.getfield 11, 3) := by decide +kernel
theorem dX4_clear_4 : decode cX4_clear 4 = .ok (.iconst 0, 1) := by decide +kernel
theorem dX4_clear_5 : decode cX4_clear 5 = .ok (.invokestatic 15, 3) := by decide +kernel
theorem dX4_clear_8 : decode cX4_clear 8 = .ok (.return_, 1) := by decide +kernel
set_option maxRecDepth 20000 in
theorem ggX4_admit_X2_toCome : GoodIn wsX4_admit wsX2_toCome := goodIn_r _ [8, 9, 10, 11, 12, 3, 13, 32, 33, 34, 35, 36, 37, 38] (by decide +kernel) (by decide +kernel)
set_option maxRecDepth 20000 in
theorem gX4_admit_X2_toCome_n21 : GoodIn wsX4_admit (wsX2_toCome) := ggX4_admit_X2_toCome
set_option maxRecDepth 20000 in
theorem ggX4_admit_X4_admitOne : GoodIn wsX4_admit wsX4_admitOne := goodIn_r _ [18, 19, 6, 20, 21, 22, 23, 24, 25, 17, 26, 27, 28, 29, 30, 31, 32, 33, 34, 35, 36, 37, 38, 39] (by decide +kernel) (by decide +kernel)
set_option maxRecDepth 20000 in
theorem gX4_admit_X4_admitOne : GoodIn wsX4_admit (wsV RX4 33 RX4 yX4_admitOne wsX4_admitOne) := goodIn_app (goodIn_of _ (by decide +kernel)) ggX4_admit_X4_admitOne
theorem dX4_admit_0 : decode cX4_admit 0 = .ok (.aload_n 1, 1) := by decide +kernel
theorem dX4_admit_1 : decode cX4_admit 1 = .ok (.invokevirtual 21, 3) := by decide +kernel
theorem dX4_admit_4 : decode cX4_admit 4 = .ok (.bipush 10, 2) := by decide +kernel
theorem dX4_admit_6 : decode cX4_admit 6 = .ok (.invokestatic 27, 3) := by decide +kernel
theorem dX4_admit_9 : decode cX4_admit 9 = .ok (.istore 5, 2) := by decide +kernel
theorem dX4_admit_11 : decode cX4_admit 11 = .ok (.iconst 0, 1) := by decide +kernel
theorem dX4_admit_12 : decode cX4_admit 12 = .ok (.istore 6, 2) := by decide +kernel
theorem dX4_admit_14 : decode cX4_admit 14 = .ok (.iload 6, 2) := by decide +kernel
theorem dX4_admit_16 : decode cX4_admit 16 = .ok (.iload 5, 2) := by decide +kernel
theorem dX4_admit_18 : decode cX4_admit 18 = .ok (.if_icmp .ge 18, 3) := by decide +kernel
theorem dX4_admit_21 : decode cX4_admit 21 = .ok (.aload_n 0, 1) := by decide +kernel
theorem dX4_admit_22 : decode cX4_admit 22 = .ok (.aload_n 1, 1) := by decide +kernel
theorem dX4_admit_23 : decode cX4_admit 23 = .ok (.iload_n 2, 1) := by decide +kernel
theorem dX4_admit_24 : decode cX4_admit 24 = .ok (.iload_n 3, 1) := by decide +kernel
theorem dX4_admit_25 : decode cX4_admit 25 = .ok (.iload 4, 2) := by decide +kernel
theorem dX4_admit_27 : decode cX4_admit 27 = .ok (.invokevirtual 33, 3) := by decide +kernel
theorem dX4_admit_30 : decode cX4_admit 30 = .ok (.iinc 6 1, 3) := by decide +kernel
theorem dX4_admit_33 : decode cX4_admit 33 = .ok (.goto (-19), 3) := by decide +kernel
theorem dX4_admit_36 : decode cX4_admit 36 = .ok (.return_, 1) := by decide +kernel
set_option maxRecDepth 20000 in
theorem ggX4_admitOne_X2_covers : GoodIn wsX4_admitOne wsX2_covers := goodIn_r _ [4, 5, 6, 16, 17, 18, 19, 20, 21, 22] (by decide +kernel) (by decide +kernel)
set_option maxRecDepth 20000 in
theorem gX4_admitOne_X2_covers_n37 : GoodIn wsX4_admitOne (wsX2_covers) := ggX4_admitOne_X2_covers
set_option maxRecDepth 20000 in
theorem ggX4_admitOne_X4_cellOf : GoodIn wsX4_admitOne wsX4_cellOf := goodIn_r _ [10] (by decide +kernel) (by decide +kernel)
set_option maxRecDepth 20000 in
theorem gX4_admitOne_X4_cellOf : GoodIn wsX4_admitOne (va_wsS RX4 41 yX4_cellOf wsX4_cellOf) := goodIn_app (goodIn_of _ (by decide +kernel)) ggX4_admitOne_X4_cellOf
set_option maxRecDepth 20000 in
theorem ggX4_admitOne_X4_raiseRow : GoodIn wsX4_admitOne wsX4_raiseRow := goodIn_r _ [14, 15, 23] (by decide +kernel) (by decide +kernel)
set_option maxRecDepth 20000 in
theorem gX4_admitOne_X4_raiseRow : GoodIn wsX4_admitOne (wsV RX4 49 RX4 yX4_raiseRow wsX4_raiseRow) := goodIn_app (goodIn_of _ (by decide +kernel)) ggX4_admitOne_X4_raiseRow
theorem dX4_admitOne_0 : decode cX4_admitOne 0 = .ok (.aload_n 1, 1) := by decide +kernel
theorem dX4_admitOne_1 : decode cX4_admitOne 1 = .ok (.iconst 0, 1) := by decide +kernel
theorem dX4_admitOne_2 : decode cX4_admitOne 2 = .ok (.invokevirtual 37, 3) := by decide +kernel
theorem dX4_admitOne_5 : decode cX4_admitOne 5 = .ok (.ifCond .eq 7, 3) := by decide +kernel
theorem dX4_admitOne_8 : decode cX4_admitOne 8 = .ok (.iconst 1, 1) := by decide +kernel
theorem dX4_admitOne_9 : decode cX4_admitOne 9 = .ok (.goto 4, 3) := by decide +kernel
theorem dX4_admitOne_12 : decode cX4_admitOne 12 = .ok (.iconst 0, 1) := by decide +kernel
theorem dX4_admitOne_13 : decode cX4_admitOne 13 = .ok (.istore 5, 2) := by decide +kernel
theorem dX4_admitOne_15 : decode cX4_admitOne 15 = .ok (.aload_n 1, 1) := by decide +kernel
theorem dX4_admitOne_16 : decode cX4_admitOne 16 = .ok (.iconst 1, 1) := by decide +kernel
theorem dX4_admitOne_17 : decode cX4_admitOne 17 = .ok (.invokevirtual 37, 3) := by decide +kernel
theorem dX4_admitOne_20 : decode cX4_admitOne 20 = .ok (.ifCond .eq 7, 3) := by decide +kernel
theorem dX4_admitOne_23 : decode cX4_admitOne 23 = .ok (.iconst 1, 1) := by decide +kernel
theorem dX4_admitOne_24 : decode cX4_admitOne 24 = .ok (.goto 4, 3) := by decide +kernel
theorem dX4_admitOne_27 : decode cX4_admitOne 27 = .ok (.iconst 0, 1) := by decide +kernel
theorem dX4_admitOne_28 : decode cX4_admitOne 28 = .ok (.istore 6, 2) := by decide +kernel
theorem dX4_admitOne_30 : decode cX4_admitOne 30 = .ok (.aload_n 1, 1) := by decide +kernel
theorem dX4_admitOne_31 : decode cX4_admitOne 31 = .ok (.iconst 2, 1) := by decide +kernel
theorem dX4_admitOne_32 : decode cX4_admitOne 32 = .ok (.invokevirtual 37, 3) := by decide +kernel
theorem dX4_admitOne_35 : decode cX4_admitOne 35 = .ok (.ifCond .eq 7, 3) := by decide +kernel
theorem dX4_admitOne_38 : decode cX4_admitOne 38 = .ok (.iconst 1, 1) := by decide +kernel
theorem dX4_admitOne_39 : decode cX4_admitOne 39 = .ok (.goto 4, 3) := by decide +kernel
theorem dX4_admitOne_42 : decode cX4_admitOne 42 = .ok (.iconst 0, 1) := by decide +kernel
theorem dX4_admitOne_43 : decode cX4_admitOne 43 = .ok (.istore 7, 2) := by decide +kernel
theorem dX4_admitOne_45 : decode cX4_admitOne 45 = .ok (.iload 5, 2) := by decide +kernel
theorem dX4_admitOne_47 : decode cX4_admitOne 47 = .ok (.iload 6, 2) := by decide +kernel
theorem dX4_admitOne_49 : decode cX4_admitOne 49 = .ok (.iload 7, 2) := by decide +kernel
theorem dX4_admitOne_51 : decode cX4_admitOne 51 = .ok (.invokestatic 41, 3) := by decide +kernel
theorem dX4_admitOne_54 : decode cX4_admitOne 54 = .ok (.istore 8, 2) := by decide +kernel
theorem dX4_admitOne_56 : decode cX4_admitOne 56 = .ok (.iload_n 2, 1) := by decide +kernel
theorem dX4_admitOne_57 : decode cX4_admitOne 57 = .ok (.istore 9, 2) := by decide +kernel
theorem dX4_admitOne_59 : decode cX4_admitOne 59 = .ok (.iload 9, 2) := by decide +kernel
theorem dX4_admitOne_61 : decode cX4_admitOne 61 = .ok (.iload 5, 2) := by decide +kernel
theorem dX4_admitOne_63 : decode cX4_admitOne 63 = .ok (.if_icmp .lt 53, 3) := by decide +kernel
theorem dX4_admitOne_66 : decode cX4_admitOne 66 = .ok (.iload_n 3, 1) := by decide +kernel
theorem dX4_admitOne_67 : decode cX4_admitOne 67 = .ok (.istore 10, 2) := by decide +kernel
theorem dX4_admitOne_69 : decode cX4_admitOne 69 = .ok (.iload 10, 2) := by decide +kernel
theorem dX4_admitOne_71 : decode cX4_admitOne 71 = .ok (.iload 6, 2) := by decide +kernel
theorem dX4_admitOne_73 : decode cX4_admitOne 73 = .ok (.if_icmp .lt 37, 3) := by decide +kernel
theorem dX4_admitOne_76 : decode cX4_admitOne 76 = .ok (.aload_n 0, 1) := by decide +kernel
theorem dX4_admitOne_77 : decode cX4_admitOne 77 = .ok (.iload 9, 2) := by decide +kernel
theorem dX4_admitOne_79 : decode cX4_admitOne 79 = .ok (.iload 10, 2) := by decide +kernel
theorem dX4_admitOne_81 : decode cX4_admitOne 81 = .ok (.iload 7, 2) := by decide +kernel
theorem dX4_admitOne_83 : decode cX4_admitOne 83 = .ok (.invokestatic 41, 3) := by decide +kernel
theorem dX4_admitOne_86 : decode cX4_admitOne 86 = .ok (.iload 9, 2) := by decide +kernel
theorem dX4_admitOne_88 : decode cX4_admitOne 88 = .ok (.iload 10, 2) := by decide +kernel
theorem dX4_admitOne_90 : decode cX4_admitOne 90 = .ok (.iload 4, 2) := by decide +kernel
theorem dX4_admitOne_92 : decode cX4_admitOne 92 = .ok (.invokestatic 41, 3) := by decide +kernel
theorem dX4_admitOne_95 : decode cX4_admitOne 95 = .ok (.iload 8, 2) := by decide +kernel
theorem dX4_admitOne_97 : decode cX4_admitOne 97 = .ok (.aload_n 1, 1) := by decide +kernel
theorem dX4_admitOne_98 : decode cX4_admitOne 98 = .ok (.getfield 45, 3) := by decide +kernel
theorem dX4_admitOne_101 : decode cX4_admitOne 101 = .ok (.invokevirtual 49, 3) := by decide +kernel
theorem dX4_admitOne_104 : decode cX4_admitOne 104 = .ok (.iinc 10 (-1), 3) := by decide +kernel
theorem dX4_admitOne_107 : decode cX4_admitOne 107 = .ok (.goto (-38), 3) := by decide +kernel
theorem dX4_admitOne_110 : decode cX4_admitOne 110 = .ok (.iinc 9 (-1), 3) := by decide +kernel
theorem dX4_admitOne_113 : decode cX4_admitOne 113 = .ok (.goto (-54), 3) := by decide +kernel
theorem dX4_admitOne_116 : decode cX4_admitOne 116 = .ok (.return_, 1) := by decide +kernel
theorem dX4_raiseRow_0 : decode cX4_raiseRow 0 = .ok (.iload_n 1, 1) := by decide +kernel
theorem dX4_raiseRow_1 : decode cX4_raiseRow 1 = .ok (.iload_n 3, 1) := by decide +kernel
theorem dX4_raiseRow_2 : decode cX4_raiseRow 2 = .ok (.isub, 1) := by decide +kernel
theorem dX4_raiseRow_3 : decode cX4_raiseRow 3 = .ok (.ifCond .lt 16, 3) := by decide +kernel
theorem dX4_raiseRow_6 : decode cX4_raiseRow 6 = .ok (.iload_n 3, 1) := by decide +kernel
theorem dX4_raiseRow_7 : decode cX4_raiseRow 7 = .ok (.ifCond .lt 12, 3) := by decide +kernel
theorem dX4_raiseRow_10 : decode cX4_raiseRow 10 = .ok (.iload_n 2, 1) := by decide +kernel
theorem dX4_raiseRow_11 : decode cX4_raiseRow 11 = .ok (.aload_n 0, 1) := by decide +kernel
theorem dX4_raiseRow_12 : decode cX4_raiseRow 12 = .ok (.getfield 11, 3) := by decide +kernel
theorem dX4_raiseRow_15 : decode cX4_raiseRow 15 = .ok (.arraylength, 1) := by decide +kernel
theorem dX4_raiseRow_16 : decode cX4_raiseRow 16 = .ok (.if_icmp .lt 4, 3) := by decide +kernel
theorem dX4_raiseRow_19 : decode cX4_raiseRow 19 = .ok (.return_, 1) := by decide +kernel
theorem dX4_raiseRow_20 : decode cX4_raiseRow 20 = .ok (.iload_n 2, 1) := by decide +kernel
theorem dX4_raiseRow_21 : decode cX4_raiseRow 21 = .ok (.istore 5, 2) := by decide +kernel
theorem dX4_raiseRow_23 : decode cX4_raiseRow 23 = .ok (.iload 5, 2) := by decide +kernel
theorem dX4_raiseRow_25 : decode cX4_raiseRow 25 = .ok (.iload_n 1, 1) := by decide +kernel
theorem dX4_raiseRow_26 : decode cX4_raiseRow 26 = .ok (.if_icmp .lt 44, 3) := by decide +kernel
theorem dX4_raiseRow_29 : decode cX4_raiseRow 29 = .ok (.aload_n 0, 1) := by decide +kernel
theorem dX4_raiseRow_30 : decode cX4_raiseRow 30 = .ok (.getfield 11, 3) := by decide +kernel
theorem dX4_raiseRow_33 : decode cX4_raiseRow 33 = .ok (.iload 5, 2) := by decide +kernel
theorem dX4_raiseRow_35 : decode cX4_raiseRow 35 = .ok (.iload_n 3, 1) := by decide +kernel
theorem dX4_raiseRow_36 : decode cX4_raiseRow 36 = .ok (.isub, 1) := by decide +kernel
theorem dX4_raiseRow_37 : decode cX4_raiseRow 37 = .ok (.iaload, 1) := by decide +kernel
theorem dX4_raiseRow_38 : decode cX4_raiseRow 38 = .ok (.iload 4, 2) := by decide +kernel
theorem dX4_raiseRow_40 : decode cX4_raiseRow 40 = .ok (.iadd, 1) := by decide +kernel
theorem dX4_raiseRow_41 : decode cX4_raiseRow 41 = .ok (.istore 6, 2) := by decide +kernel
theorem dX4_raiseRow_43 : decode cX4_raiseRow 43 = .ok (.iload 6, 2) := by decide +kernel
theorem dX4_raiseRow_45 : decode cX4_raiseRow 45 = .ok (.aload_n 0, 1) := by decide +kernel
theorem dX4_raiseRow_46 : decode cX4_raiseRow 46 = .ok (.getfield 11, 3) := by decide +kernel
theorem dX4_raiseRow_49 : decode cX4_raiseRow 49 = .ok (.iload 5, 2) := by decide +kernel
theorem dX4_raiseRow_51 : decode cX4_raiseRow 51 = .ok (.iaload, 1) := by decide +kernel
theorem dX4_raiseRow_52 : decode cX4_raiseRow 52 = .ok (.if_icmp .le 12, 3) := by decide +kernel
theorem dX4_raiseRow_55 : decode cX4_raiseRow 55 = .ok (.aload_n 0, 1) := by decide +kernel
theorem dX4_raiseRow_56 : decode cX4_raiseRow 56 = .ok (.getfield 11, 3) := by decide +kernel
theorem dX4_raiseRow_59 : decode cX4_raiseRow 59 = .ok (.iload 5, 2) := by decide +kernel
theorem dX4_raiseRow_61 : decode cX4_raiseRow 61 = .ok (.iload 6, 2) := by decide +kernel
theorem dX4_raiseRow_63 : decode cX4_raiseRow 63 = .ok (.iastore, 1) := by decide +kernel
theorem dX4_raiseRow_64 : decode cX4_raiseRow 64 = .ok (.iinc 5 (-1), 3) := by decide +kernel
theorem dX4_raiseRow_67 : decode cX4_raiseRow 67 = .ok (.goto (-44), 3) := by decide +kernel
theorem dX4_raiseRow_70 : decode cX4_raiseRow 70 = .ok (.return_, 1) := by decide +kernel
set_option maxRecDepth 20000 in
theorem ggX4_valueOf_X4_cellOf : GoodIn wsX4_valueOf wsX4_cellOf := goodIn_r _ [5] (by decide +kernel) (by decide +kernel)
set_option maxRecDepth 20000 in
theorem gX4_valueOf_X4_cellOf : GoodIn wsX4_valueOf (va_wsS RX4 41 yX4_cellOf wsX4_cellOf) := goodIn_app (goodIn_of _ (by decide +kernel)) ggX4_valueOf_X4_cellOf
theorem dX4_valueOf_0 : decode cX4_valueOf 0 = .ok (.iload_n 1, 1) := by decide +kernel
theorem dX4_valueOf_1 : decode cX4_valueOf 1 = .ok (.iload_n 2, 1) := by decide +kernel
theorem dX4_valueOf_2 : decode cX4_valueOf 2 = .ok (.iload_n 3, 1) := by decide +kernel
theorem dX4_valueOf_3 : decode cX4_valueOf 3 = .ok (.invokestatic 41, 3) := by decide +kernel
theorem dX4_valueOf_6 : decode cX4_valueOf 6 = .ok (.istore 4, 2) := by decide +kernel
theorem dX4_valueOf_8 : decode cX4_valueOf 8 = .ok (.iload 4, 2) := by decide +kernel
theorem dX4_valueOf_10 : decode cX4_valueOf 10 = .ok (.ifCond .lt 23, 3) := by decide +kernel
theorem dX4_valueOf_13 : decode cX4_valueOf 13 = .ok (.iload 4, 2) := by decide +kernel
theorem dX4_valueOf_15 : decode cX4_valueOf 15 = .ok (.aload_n 0, 1) := by decide +kernel
theorem dX4_valueOf_16 : decode cX4_valueOf 16 = .ok (.getfield 11, 3) := by decide +kernel
theorem dX4_valueOf_19 : decode cX4_valueOf 19 = .ok (.arraylength, 1) := by decide +kernel
theorem dX4_valueOf_20 : decode cX4_valueOf 20 = .ok (.if_icmp .ge 13, 3) := by decide +kernel
theorem dX4_valueOf_23 : decode cX4_valueOf 23 = .ok (.aload_n 0, 1) := by decide +kernel
theorem dX4_valueOf_24 : decode cX4_valueOf 24 = .ok (.getfield 11, 3) := by decide +kernel
theorem dX4_valueOf_27 : decode cX4_valueOf 27 = .ok (.iload 4, 2) := by decide +kernel
theorem dX4_valueOf_29 : decode cX4_valueOf 29 = .ok (.iaload, 1) := by decide +kernel
theorem dX4_valueOf_30 : decode cX4_valueOf 30 = .ok (.goto 4, 3) := by decide +kernel
theorem dX4_valueOf_33 : decode cX4_valueOf 33 = .ok (.iconst 0, 1) := by decide +kernel
theorem dX4_valueOf_34 : decode cX4_valueOf 34 = .ok (.ireturn, 1) := by decide +kernel
set_option maxRecDepth 20000 in
theorem ggX5_init_X1_init : GoodIn wsX5_init wsX1_init := goodIn_r _ [28, 29, 2, 3, 30, 31, 32, 33, 34, 35, 36, 37, 38, 39, 40, 41, 4, 42, 43, 69, 70, 62, 63, 64, 65, 66, 67] (by decide +kernel) (by decide +kernel)
set_option maxRecDepth 20000 in
theorem gX5_init_X1_init_n30 : GoodIn wsX5_init (wsX1_init) := ggX5_init_X1_init
set_option maxRecDepth 20000 in
theorem ggX5_init_X4_init : GoodIn wsX5_init wsX4_init := goodIn_r _ [45, 46, 2, 3, 4, 47, 68] (by decide +kernel) (by decide +kernel)
set_option maxRecDepth 20000 in
theorem gX5_init_X4_init_n37 : GoodIn wsX5_init (wsX4_init) := ggX5_init_X4_init
theorem dX5_init_0 : decode cX5_init 0 = .ok (.aload_n 0, 1) := by decide +kernel
theorem dX5_init_1 : decode cX5_init 1 = .ok (.invokespecial 3, 3) := by decide +kernel
theorem dX5_init_4 : decode cX5_init 4 = .ok (.aload_n 0, 1) := by decide +kernel
theorem dX5_init_5 : decode cX5_init 5 = .ok (.iconst 3, 1) := by decide +kernel
theorem dX5_init_6 : decode cX5_init 6 = .ok (.newarray .int, 2) := by decide +kernel
theorem dX5_init_8 : decode cX5_init 8 = .ok (.putfield 9, 3) := by decide +kernel
theorem dX5_init_11 : decode cX5_init 11 = .ok (.aload_n 0, 1) := by decide +kernel
theorem dX5_init_12 : decode cX5_init 12 = .ok (.bipush 8, 2) := by decide +kernel
theorem dX5_init_14 : decode cX5_init 14 = .ok (.anewarray 13, 3) := by decide +kernel
theorem dX5_init_17 : decode cX5_init 17 = .ok (.putfield 15, 3) := by decide +kernel
theorem dX5_init_20 : decode cX5_init 20 = .ok (.aload_n 0, 1) := by decide +kernel
theorem dX5_init_21 : decode cX5_init 21 = .ok (.bipush 8, 2) := by decide +kernel
theorem dX5_init_23 : decode cX5_init 23 = .ok (.anewarray 13, 3) := by decide +kernel
theorem dX5_init_26 : decode cX5_init 26 = .ok (.putfield 19, 3) := by decide +kernel
theorem dX5_init_29 : decode cX5_init 29 = .ok (.aload_n 0, 1) := by decide +kernel
theorem dX5_init_30 : decode cX5_init 30 = .ok (.bipush 60, 2) := by decide +kernel
theorem dX5_init_32 : decode cX5_init 32 = .ok (.anewarray 22, 3) := by decide +kernel
theorem dX5_init_35 : decode cX5_init 35 = .ok (.putfield 24, 3) := by decide +kernel
theorem dX5_init_38 : decode cX5_init 38 = .ok (.aload_n 0, 1) := by decide +kernel
theorem dX5_init_39 : decode cX5_init 39 = .ok (.new 28, 3) := by decide +kernel
theorem dX5_init_42 : decode cX5_init 42 = .ok (.dup, 1) := by decide +kernel
theorem dX5_init_43 : decode cX5_init 43 = .ok (.invokespecial 30, 3) := by decide +kernel
theorem dX5_init_46 : decode cX5_init 46 = .ok (.putfield 31, 3) := by decide +kernel
theorem dX5_init_49 : decode cX5_init 49 = .ok (.aload_n 0, 1) := by decide +kernel
theorem dX5_init_50 : decode cX5_init 50 = .ok (.new 35, 3) := by decide +kernel
theorem dX5_init_53 : decode cX5_init 53 = .ok (.dup, 1) := by decide +kernel
theorem dX5_init_54 : decode cX5_init 54 = .ok (.invokespecial 37, 3) := by decide +kernel
theorem dX5_init_57 : decode cX5_init 57 = .ok (.putfield 38, 3) := by decide +kernel
theorem dX5_init_60 : decode cX5_init 60 = .ok (.aload_n 0, 1) := by decide +kernel
theorem dX5_init_61 : decode cX5_init 61 = .ok (.iconst 0, 1) := by decide +kernel
theorem dX5_init_62 : decode cX5_init 62 = .ok (.putfield 42, 3) := by decide +kernel
theorem dX5_init_65 : decode cX5_init 65 = .ok (.aload_n 0, 1) := by decide +kernel
theorem dX5_init_66 : decode cX5_init 66 = .ok (.iconst 0, 1) := by decide +kernel
theorem dX5_init_67 : decode cX5_init 67 = .ok (.putfield 46, 3) := by decide +kernel
theorem dX5_init_70 : decode cX5_init 70 = .ok (.aload_n 0, 1) := by decide +kernel
theorem dX5_init_71 : decode cX5_init 71 = .ok (.iconst 0, 1) := by decide +kernel
theorem dX5_init_72 : decode cX5_init 72 = .ok (.putfield 49, 3) := by decide +kernel
theorem dX5_init_75 : decode cX5_init 75 = .ok (.aload_n 0, 1) := by decide +kernel
theorem dX5_init_76 : decode cX5_init 76 = .ok (.bipush 100, 2) := by decide +kernel
theorem dX5_init_78 : decode cX5_init 78 = .ok (.putfield 52, 3) := by decide +kernel
theorem dX5_init_81 : decode cX5_init 81 = .ok (.aload_n 0, 1) := by decide +kernel
theorem dX5_init_82 : decode cX5_init 82 = .ok (.iconst 0, 1) := by decide +kernel
theorem dX5_init_83 : decode cX5_init 83 = .ok (.putfield 55, 3) := by decide +kernel
theorem dX5_init_86 : decode cX5_init 86 = .ok (.aload_n 0, 1) := by decide +kernel
theorem dX5_init_87 : decode cX5_init 87 = .ok (.iconst 0, 1) := by decide +kernel
theorem dX5_init_88 : decode cX5_init 88 = .ok (.putfield 58, 3) := by decide +kernel
theorem dX5_init_91 : decode cX5_init 91 = .ok (.aload_n 0, 1) := by decide +kernel
theorem dX5_init_92 : decode cX5_init 92 = .ok (.iconst 0, 1) := by decide +kernel
theorem dX5_init_93 : decode cX5_init 93 = .ok (.putfield 61, 3) := by decide +kernel
theorem dX5_init_96 : decode cX5_init 96 = .ok (.aload_n 0, 1) := by decide +kernel
theorem dX5_init_97 : decode cX5_init 97 = .ok (.lconst 0, 1) := by decide +kernel
theorem dX5_init_98 : decode cX5_init 98 = .ok (.putfield 64, 3) := by decide +kernel
theorem dX5_init_101 : decode cX5_init 101 = .ok (.return_, 1) := by decide +kernel
set_option maxRecDepth 20000 in
theorem ggX5_setSeats_X5_within : GoodIn wsX5_setSeats wsX5_within := goodIn_r _ [6] (by decide +kernel) (by decide +kernel)
set_option maxRecDepth 20000 in
theorem gX5_setSeats_X5_within : GoodIn wsX5_setSeats (va_wsS RX5 68 yX5_within wsX5_within) := goodIn_app (goodIn_of _ (by decide +kernel)) ggX5_setSeats_X5_within
set_option maxRecDepth 20000 in
theorem ggX5_setSeats_X5_putSeats : GoodIn wsX5_setSeats wsX5_putSeats := goodIn_r _ [10, 11, 12, 13, 14, 15, 16, 17, 18, 19, 20, 21, 22, 23, 24, 25] (by decide +kernel) (by decide +kernel)
set_option maxRecDepth 20000 in
theorem gX5_setSeats_X5_putSeats : GoodIn wsX5_setSeats (wsV RX5 79 RX5 yX5_putSeats wsX5_putSeats) := goodIn_app (goodIn_of _ (by decide +kernel)) ggX5_setSeats_X5_putSeats
theorem dX5_setSeats_0 : decode cX5_setSeats 0 = .ok (.iload_n 1, 1) := by decide +kernel
theorem dX5_setSeats_1 : decode cX5_setSeats 1 = .ok (.iconst 0, 1) := by decide +kernel
theorem dX5_setSeats_2 : decode cX5_setSeats 2 = .ok (.bipush 10, 2) := by decide +kernel
theorem dX5_setSeats_4 : decode cX5_setSeats 4 = .ok (.invokestatic 68, 3) := by decide +kernel
theorem dX5_setSeats_7 : decode cX5_setSeats 7 = .ok (.ifCond .eq 23, 3) := by decide +kernel
theorem dX5_setSeats_10 : decode cX5_setSeats 10 = .ok (.iload_n 2, 1) := by decide +kernel
theorem dX5_setSeats_11 : decode cX5_setSeats 11 = .ok (.iconst 0, 1) := by decide +kernel
theorem dX5_setSeats_12 : decode cX5_setSeats 12 = .ok (.bipush 10, 2) := by decide +kernel
theorem dX5_setSeats_14 : decode cX5_setSeats 14 = .ok (.invokestatic 68, 3) := by decide +kernel
theorem dX5_setSeats_17 : decode cX5_setSeats 17 = .ok (.ifCond .eq 13, 3) := by decide +kernel
theorem dX5_setSeats_20 : decode cX5_setSeats 20 = .ok (.iload_n 3, 1) := by decide +kernel
theorem dX5_setSeats_21 : decode cX5_setSeats 21 = .ok (.iconst 0, 1) := by decide +kernel
theorem dX5_setSeats_22 : decode cX5_setSeats 22 = .ok (.bipush 10, 2) := by decide +kernel
theorem dX5_setSeats_24 : decode cX5_setSeats 24 = .ok (.invokestatic 68, 3) := by decide +kernel
theorem dX5_setSeats_27 : decode cX5_setSeats 27 = .ok (.ifCond .ne 13, 3) := by decide +kernel
theorem dX5_setSeats_30 : decode cX5_setSeats 30 = .ok (.new 72, 3) := by decide +kernel
theorem dX5_setSeats_33 : decode cX5_setSeats 33 = .ok (.dup, 1) := by decide +kernel
theorem dX5_setSeats_34 : decode cX5_setSeats 34 = .ok (.ldc 74, 2) := by decide +kernel
theorem dX5_setSeats_36 : decode cX5_setSeats 36 = .ok (.invokespecial 76, 3) := by decide +kernel
theorem dX5_setSeats_39 : decode cX5_setSeats 39 = .ok (.athrow, 1) := by decide +kernel
theorem dX5_setSeats_40 : decode cX5_setSeats 40 = .ok (.aload_n 0, 1) := by decide +kernel
theorem dX5_setSeats_41 : decode cX5_setSeats 41 = .ok (.iconst 0, 1) := by decide +kernel
theorem dX5_setSeats_42 : decode cX5_setSeats 42 = .ok (.iload_n 1, 1) := by decide +kernel
theorem dX5_setSeats_43 : decode cX5_setSeats 43 = .ok (.invokevirtual 79, 3) := by decide +kernel
theorem dX5_setSeats_46 : decode cX5_setSeats 46 = .ok (.aload_n 0, 1) := by decide +kernel
theorem dX5_setSeats_47 : decode cX5_setSeats 47 = .ok (.iconst 1, 1) := by decide +kernel
theorem dX5_setSeats_48 : decode cX5_setSeats 48 = .ok (.iload_n 2, 1) := by decide +kernel
theorem dX5_setSeats_49 : decode cX5_setSeats 49 = .ok (.invokevirtual 79, 3) := by decide +kernel
theorem dX5_setSeats_52 : decode cX5_setSeats 52 = .ok (.aload_n 0, 1) := by decide +kernel
theorem dX5_setSeats_53 : decode cX5_setSeats 53 = .ok (.iconst 2, 1) := by decide +kernel
theorem dX5_setSeats_54 : decode cX5_setSeats 54 = .ok (.iload_n 3, 1) := by decide +kernel
theorem dX5_setSeats_55 : decode cX5_setSeats 55 = .ok (.invokevirtual 79, 3) := by decide +kernel
theorem dX5_setSeats_58 : decode cX5_setSeats 58 = .ok (.return_, 1) := by decide +kernel
set_option maxRecDepth 20000 in
theorem ggX5_addProduct_X5_isLeg : GoodIn wsX5_addProduct wsX5_isLeg := goodIn_r _ [15, 16, 17, 14, 18] (by decide +kernel) (by decide +kernel)
set_option maxRecDepth 20000 in
theorem gX5_addProduct_X5_isLeg : GoodIn wsX5_addProduct (va_wsS RX5 83 yX5_isLeg wsX5_isLeg) := goodIn_app (goodIn_of _ (by decide +kernel)) ggX5_addProduct_X5_isLeg
set_option maxRecDepth 20000 in
theorem ggX5_addProduct_X5_within : GoodIn wsX5_addProduct wsX5_within := goodIn_r _ [18] (by decide +kernel) (by decide +kernel)
set_option maxRecDepth 20000 in
theorem gX5_addProduct_X5_within : GoodIn wsX5_addProduct (va_wsS RX5 68 yX5_within wsX5_within) := goodIn_app (goodIn_of _ (by decide +kernel)) ggX5_addProduct_X5_within
set_option maxRecDepth 20000 in
theorem ggX5_addProduct_X5_isOffered : GoodIn wsX5_addProduct wsX5_isOffered := goodIn_r _ [22, 23, 42, 43, 44, 45, 46, 47, 48, 49, 50, 51, 52, 53, 54, 55, 56, 57, 58, 59, 60, 61, 62] (by decide +kernel) (by decide +kernel)
set_option maxRecDepth 20000 in
theorem gX5_addProduct_X5_isOffered : GoodIn wsX5_addProduct (wsV RX5 94 RX5 yX5_isOffered wsX5_isOffered) := goodIn_app (goodIn_of _ (by decide +kernel)) ggX5_addProduct_X5_isOffered
set_option maxRecDepth 20000 in
theorem ggX5_addProduct_X2_init : GoodIn wsX5_addProduct wsX2_init := goodIn_r _ [25, 26, 27, 28, 29, 30, 31, 32, 33, 34, 35, 36, 56, 57, 58, 59, 60, 61, 62] (by decide +kernel) (by decide +kernel)
set_option maxRecDepth 20000 in
theorem gX5_addProduct_X2_init_n102 : GoodIn wsX5_addProduct (wsX2_init) := ggX5_addProduct_X2_init
set_option maxRecDepth 20000 in
theorem ggX5_addProduct_X5_offer : GoodIn wsX5_addProduct wsX5_offer := goodIn_r _ [40, 7, 23, 41, 42, 43, 44, 45, 46, 47, 48, 49, 50, 51, 52, 53, 54, 55, 56, 57, 58, 59, 60, 61, 62] (by decide +kernel) (by decide +kernel)
set_option maxRecDepth 20000 in
theorem gX5_addProduct_X5_offer : GoodIn wsX5_addProduct (wsV RX5 105 RX5 yX5_offer wsX5_offer) := goodIn_app (goodIn_of _ (by decide +kernel)) ggX5_addProduct_X5_offer
theorem dX5_addProduct_0 : decode cX5_addProduct 0 = .ok (.iload_n 1, 1) := by decide +kernel
theorem dX5_addProduct_1 : decode cX5_addProduct 1 = .ok (.invokestatic 83, 3) := by decide +kernel
theorem dX5_addProduct_4 : decode cX5_addProduct 4 = .ok (.ifCond .eq 10, 3) := by decide +kernel
theorem dX5_addProduct_7 : decode cX5_addProduct 7 = .ok (.iload_n 2, 1) := by decide +kernel
theorem dX5_addProduct_8 : decode cX5_addProduct 8 = .ok (.invokestatic 83, 3) := by decide +kernel
theorem dX5_addProduct_11 : decode cX5_addProduct 11 = .ok (.ifCond .ne 13, 3) := by decide +kernel
theorem dX5_addProduct_14 : decode cX5_addProduct 14 = .ok (.new 87, 3) := by decide +kernel
theorem dX5_addProduct_17 : decode cX5_addProduct 17 = .ok (.dup, 1) := by decide +kernel
theorem dX5_addProduct_18 : decode cX5_addProduct 18 = .ok (.ldc 89, 2) := by decide +kernel
theorem dX5_addProduct_20 : decode cX5_addProduct 20 = .ok (.invokespecial 91, 3) := by decide +kernel
theorem dX5_addProduct_23 : decode cX5_addProduct 23 = .ok (.athrow, 1) := by decide +kernel
theorem dX5_addProduct_24 : decode cX5_addProduct 24 = .ok (.iload_n 2, 1) := by decide +kernel
theorem dX5_addProduct_25 : decode cX5_addProduct 25 = .ok (.iload_n 1, 1) := by decide +kernel
theorem dX5_addProduct_26 : decode cX5_addProduct 26 = .ok (.if_icmp .lt 14, 3) := by decide +kernel
theorem dX5_addProduct_29 : decode cX5_addProduct 29 = .ok (.iload_n 3, 1) := by decide +kernel
theorem dX5_addProduct_30 : decode cX5_addProduct 30 = .ok (.iconst 1, 1) := by decide +kernel
theorem dX5_addProduct_31 : decode cX5_addProduct 31 = .ok (.sipush 1000, 3) := by decide +kernel
theorem dX5_addProduct_34 : decode cX5_addProduct 34 = .ok (.invokestatic 68, 3) := by decide +kernel
theorem dX5_addProduct_37 : decode cX5_addProduct 37 = .ok (.ifCond .ne 13, 3) := by decide +kernel
theorem dX5_addProduct_40 : decode cX5_addProduct 40 = .ok (.new 72, 3) := by decide +kernel
theorem dX5_addProduct_43 : decode cX5_addProduct 43 = .ok (.dup, 1) := by decide +kernel
theorem dX5_addProduct_44 : decode cX5_addProduct 44 = .ok (.ldc 92, 2) := by decide +kernel
theorem dX5_addProduct_46 : decode cX5_addProduct 46 = .ok (.invokespecial 76, 3) := by decide +kernel
theorem dX5_addProduct_49 : decode cX5_addProduct 49 = .ok (.athrow, 1) := by decide +kernel
theorem dX5_addProduct_50 : decode cX5_addProduct 50 = .ok (.aload_n 0, 1) := by decide +kernel
theorem dX5_addProduct_51 : decode cX5_addProduct 51 = .ok (.getfield 42, 3) := by decide +kernel
theorem dX5_addProduct_54 : decode cX5_addProduct 54 = .ok (.bipush 8, 2) := by decide +kernel
theorem dX5_addProduct_56 : decode cX5_addProduct 56 = .ok (.if_icmp .ge 13, 3) := by decide +kernel
theorem dX5_addProduct_59 : decode cX5_addProduct 59 = .ok (.aload_n 0, 1) := by decide +kernel
theorem dX5_addProduct_60 : decode cX5_addProduct 60 = .ok (.iload_n 1, 1) := by decide +kernel
theorem dX5_addProduct_61 : decode cX5_addProduct 61 = .ok (.iload_n 2, 1) := by decide +kernel
theorem dX5_addProduct_62 : decode cX5_addProduct 62 = .ok (.iload_n 3, 1) := by decide +kernel
theorem dX5_addProduct_63 : decode cX5_addProduct 63 = .ok (.invokevirtual 94, 3) := by decide +kernel
theorem dX5_addProduct_66 : decode cX5_addProduct 66 = .ok (.ifCond .eq 13, 3) := by decide +kernel
theorem dX5_addProduct_69 : decode cX5_addProduct 69 = .ok (.new 97, 3) := by decide +kernel
theorem dX5_addProduct_72 : decode cX5_addProduct 72 = .ok (.dup, 1) := by decide +kernel
theorem dX5_addProduct_73 : decode cX5_addProduct 73 = .ok (.ldc 99, 2) := by decide +kernel
theorem dX5_addProduct_75 : decode cX5_addProduct 75 = .ok (.invokespecial 101, 3) := by decide +kernel
theorem dX5_addProduct_78 : decode cX5_addProduct 78 = .ok (.athrow, 1) := by decide +kernel
theorem dX5_addProduct_79 : decode cX5_addProduct 79 = .ok (.aload_n 0, 1) := by decide +kernel
theorem dX5_addProduct_80 : decode cX5_addProduct 80 = .ok (.getfield 42, 3) := by decide +kernel
theorem dX5_addProduct_83 : decode cX5_addProduct 83 = .ok (.istore 4, 2) := by decide +kernel
theorem dX5_addProduct_85 : decode cX5_addProduct 85 = .ok (.aload_n 0, 1) := by decide +kernel
theorem dX5_addProduct_86 : decode cX5_addProduct 86 = .ok (.new 13, 3) := by decide +kernel
theorem dX5_addProduct_89 : decode cX5_addProduct 89 = .ok (.dup, 1) := by decide +kernel
theorem dX5_addProduct_90 : decode cX5_addProduct 90 = .ok (.iload_n 1, 1) := by decide +kernel
theorem dX5_addProduct_91 : decode cX5_addProduct 91 = .ok (.iload_n 2, 1) := by decide +kernel
theorem dX5_addProduct_92 : decode cX5_addProduct 92 = .ok (.iload_n 3, 1) := by decide +kernel
theorem dX5_addProduct_93 : decode cX5_addProduct 93 = .ok (.aload_n 0, 1) := by decide +kernel
theorem dX5_addProduct_94 : decode cX5_addProduct 94 = .ok (.getfield 49, 3) := by decide +kernel
theorem dX5_addProduct_97 : decode cX5_addProduct 97 = .ok (.invokespecial 102, 3) := by decide +kernel
theorem dX5_addProduct_100 : decode cX5_addProduct 100 = .ok (.invokevirtual 105, 3) := by decide +kernel
theorem dX5_addProduct_103 : decode cX5_addProduct 103 = .ok (.iload 4, 2) := by decide +kernel
theorem dX5_addProduct_105 : decode cX5_addProduct 105 = .ok (.ireturn, 1) := by decide +kernel
set_option maxRecDepth 20000 in
theorem ggX5_setExpected_X5_productAt : GoodIn wsX5_setExpected wsX5_productAt := goodIn_r _ [9, 10, 21, 22, 23, 24, 25, 26, 27, 28, 29, 30, 31, 32, 33, 34] (by decide +kernel) (by decide +kernel)
set_option maxRecDepth 20000 in
theorem gX5_setExpected_X5_productAt : GoodIn wsX5_setExpected (wsV RX5 109 RX5 yX5_productAt wsX5_productAt) := goodIn_app (goodIn_of _ (by decide +kernel)) ggX5_setExpected_X5_productAt
set_option maxRecDepth 20000 in
theorem ggX5_setExpected_X5_within : GoodIn wsX5_setExpected wsX5_within := goodIn_r _ [13] (by decide +kernel) (by decide +kernel)
set_option maxRecDepth 20000 in
theorem gX5_setExpected_X5_within : GoodIn wsX5_setExpected (va_wsS RX5 68 yX5_within wsX5_within) := goodIn_app (goodIn_of _ (by decide +kernel)) ggX5_setExpected_X5_within
theorem dX5_setExpected_0 : decode cX5_setExpected 0 = .ok (.aload_n 0, 1) := by decide +kernel
theorem dX5_setExpected_1 : decode cX5_setExpected 1 = .ok (.iload_n 1, 1) := by decide +kernel
theorem dX5_setExpected_2 : decode cX5_setExpected 2 = .ok (.invokevirtual 109, 3) := by decide +kernel
theorem dX5_setExpected_5 : decode cX5_setExpected 5 = .ok (.astore_n 3, 1) := by decide +kernel
theorem dX5_setExpected_6 : decode cX5_setExpected 6 = .ok (.aload_n 3, 1) := by decide +kernel
theorem dX5_setExpected_7 : decode cX5_setExpected 7 = .ok (.ifnonnull 13, 3) := by decide +kernel
theorem dX5_setExpected_10 : decode cX5_setExpected 10 = .ok (.new 87, 3) := by decide +kernel
theorem dX5_setExpected_13 : decode cX5_setExpected 13 = .ok (.dup, 1) := by decide +kernel
theorem dX5_setExpected_14 : decode cX5_setExpected 14 = .ok (.ldc 113, 2) := by decide +kernel
theorem dX5_setExpected_16 : decode cX5_setExpected 16 = .ok (.invokespecial 91, 3) := by decide +kernel
theorem dX5_setExpected_19 : decode cX5_setExpected 19 = .ok (.athrow, 1) := by decide +kernel
theorem dX5_setExpected_20 : decode cX5_setExpected 20 = .ok (.iload_n 2, 1) := by decide +kernel
theorem dX5_setExpected_21 : decode cX5_setExpected 21 = .ok (.iconst 0, 1) := by decide +kernel
theorem dX5_setExpected_22 : decode cX5_setExpected 22 = .ok (.bipush 20, 2) := by decide +kernel
theorem dX5_setExpected_24 : decode cX5_setExpected 24 = .ok (.invokestatic 68, 3) := by decide +kernel
theorem dX5_setExpected_27 : decode cX5_setExpected 27 = .ok (.ifCond .ne 13, 3) := by decide +kernel
theorem dX5_setExpected_30 : decode cX5_setExpected 30 = .ok (.new 72, 3) := by decide +kernel
theorem dX5_setExpected_33 : decode cX5_setExpected 33 = .ok (.dup, 1) := by decide +kernel
theorem dX5_setExpected_34 : decode cX5_setExpected 34 = .ok (.ldc 115, 2) := by decide +kernel
theorem dX5_setExpected_36 : decode cX5_setExpected 36 = .ok (.invokespecial 76, 3) := by decide +kernel
theorem dX5_setExpected_39 : decode cX5_setExpected 39 = .ok (.athrow, 1) := by decide +kernel
theorem dX5_setExpected_40 : decode cX5_setExpected 40 = .ok (.aload_n 3, 1) := by decide +kernel
theorem dX5_setExpected_41 : decode cX5_setExpected 41 = .ok (.getfield 117, 3) := by decide +kernel
theorem dX5_setExpected_44 : decode cX5_setExpected 44 = .ok (.istore 4, 2) := by decide +kernel
theorem dX5_setExpected_46 : decode cX5_setExpected 46 = .ok (.aload_n 3, 1) := by decide +kernel
theorem dX5_setExpected_47 : decode cX5_setExpected 47 = .ok (.iload_n 2, 1) := by decide +kernel
theorem dX5_setExpected_48 : decode cX5_setExpected 48 = .ok (.putfield 117, 3) := by decide +kernel
theorem dX5_setExpected_51 : decode cX5_setExpected 51 = .ok (.iload 4, 2) := by decide +kernel
theorem dX5_setExpected_53 : decode cX5_setExpected 53 = .ok (.ireturn, 1) := by decide +kernel
set_option maxRecDepth 20000 in
theorem ggX5_setRate_X5_within : GoodIn wsX5_setRate wsX5_within := goodIn_r _ [7] (by decide +kernel) (by decide +kernel)
set_option maxRecDepth 20000 in
theorem gX5_setRate_X5_within : GoodIn wsX5_setRate (va_wsS RX5 68 yX5_within wsX5_within) := goodIn_app (goodIn_of _ (by decide +kernel)) ggX5_setRate_X5_within
theorem dX5_setRate_0 : decode cX5_setRate 0 = .ok (.iload_n 1, 1) := by decide +kernel
theorem dX5_setRate_1 : decode cX5_setRate 1 = .ok (.bipush 50, 2) := by decide +kernel
theorem dX5_setRate_3 : decode cX5_setRate 3 = .ok (.bipush 100, 2) := by decide +kernel
theorem dX5_setRate_5 : decode cX5_setRate 5 = .ok (.invokestatic 68, 3) := by decide +kernel
theorem dX5_setRate_8 : decode cX5_setRate 8 = .ok (.ifCond .ne 13, 3) := by decide +kernel
theorem dX5_setRate_11 : decode cX5_setRate 11 = .ok (.new 72, 3) := by decide +kernel
theorem dX5_setRate_14 : decode cX5_setRate 14 = .ok (.dup, 1) := by decide +kernel
theorem dX5_setRate_15 : decode cX5_setRate 15 = .ok (.ldc 120, 2) := by decide +kernel
theorem dX5_setRate_17 : decode cX5_setRate 17 = .ok (.invokespecial 76, 3) := by decide +kernel
theorem dX5_setRate_20 : decode cX5_setRate 20 = .ok (.athrow, 1) := by decide +kernel
theorem dX5_setRate_21 : decode cX5_setRate 21 = .ok (.aload_n 0, 1) := by decide +kernel
theorem dX5_setRate_22 : decode cX5_setRate 22 = .ok (.getfield 52, 3) := by decide +kernel
theorem dX5_setRate_25 : decode cX5_setRate 25 = .ok (.istore_n 2, 1) := by decide +kernel
theorem dX5_setRate_26 : decode cX5_setRate 26 = .ok (.aload_n 0, 1) := by decide +kernel
theorem dX5_setRate_27 : decode cX5_setRate 27 = .ok (.iload_n 1, 1) := by decide +kernel
theorem dX5_setRate_28 : decode cX5_setRate 28 = .ok (.putfield 52, 3) := by decide +kernel
theorem dX5_setRate_31 : decode cX5_setRate 31 = .ok (.iload_n 2, 1) := by decide +kernel
theorem dX5_setRate_32 : decode cX5_setRate 32 = .ok (.ireturn, 1) := by decide +kernel
set_option maxRecDepth 20000 in
theorem ggX5_ask_X5_productAt : GoodIn wsX5_ask wsX5_productAt := goodIn_r _ [13, 14, 150, 151, 152, 153, 154, 155, 156, 157, 158, 159, 160, 161, 162, 163] (by decide +kernel) (by decide +kernel)
set_option maxRecDepth 20000 in
theorem gX5_ask_X5_productAt : GoodIn wsX5_ask (wsV RX5 109 RX5 yX5_productAt wsX5_productAt) := goodIn_app (goodIn_of _ (by decide +kernel)) ggX5_ask_X5_productAt
set_option maxRecDepth 20000 in
theorem ggX5_ask_X5_isFull : GoodIn wsX5_ask wsX5_isFull := goodIn_r _ [18, 19, 20, 21, 12, 22, 5, 23, 24, 25, 26, 27, 28, 8, 29, 30, 31, 32, 33, 34, 35, 36, 37, 38, 39, 40, 41, 42, 43, 44, 164, 165, 166, 167, 168, 169, 170, 150, 151, 152, 153, 154, 155, 156, 157, 158, 159, 160, 161, 162, 163, 171, 172, 173, 174, 175] (by decide +kernel) (by decide +kernel)
set_option maxRecDepth 20000 in
theorem gX5_ask_X5_isFull : GoodIn wsX5_ask (wsV RX5 127 RX5 yX5_isFull wsX5_isFull) := goodIn_app (goodIn_of _ (by decide +kernel)) ggX5_ask_X5_isFull
set_option maxRecDepth 20000 in
theorem ggX5_ask_X5_refuse : GoodIn wsX5_ask wsX5_refuse := goodIn_r _ [48, 49, 50, 51, 150, 151, 152, 153, 154, 155, 156, 157, 158, 159, 160, 161, 162, 163] (by decide +kernel) (by decide +kernel)
set_option maxRecDepth 20000 in
theorem gX5_ask_X5_refuse : GoodIn wsX5_ask (wsV RX5 131 RX5 yX5_refuse wsX5_refuse) := goodIn_app (goodIn_of _ (by decide +kernel)) ggX5_ask_X5_refuse
set_option maxRecDepth 20000 in
theorem ggX5_ask_X5_isProtected : GoodIn wsX5_ask wsX5_isProtected := goodIn_r _ [55, 35, 36, 37, 12, 38, 39, 40, 41, 42, 43, 44, 19, 20, 21, 22, 5, 23, 24, 25, 26, 27, 28, 8, 29, 30, 31, 32, 33, 34, 56, 57, 58, 59, 14, 60, 61, 62, 63, 64, 65, 66, 67, 68, 69, 70, 71, 164, 165, 166, 167, 168, 169, 170, 150, 151, 152, 153, 154, 155, 156, 157, 158, 159, 160, 161, 162, 163, 171, 172, 173, 174, 175] (by decide +kernel) (by decide +kernel)
set_option maxRecDepth 20000 in
theorem gX5_ask_X5_isProtected : GoodIn wsX5_ask (wsV RX5 135 RX5 yX5_isProtected wsX5_isProtected) := goodIn_app (goodIn_of _ (by decide +kernel)) ggX5_ask_X5_isProtected
set_option maxRecDepth 20000 in
theorem ggX5_ask_X5_bidsOver : GoodIn wsX5_ask wsX5_bidsOver := goodIn_r _ [75, 76, 77, 78, 12, 79, 80, 81, 82, 83, 84, 85, 86, 87, 88, 89, 90, 91, 92, 93, 94, 95, 96, 97, 98, 99, 62, 100, 101, 102, 103, 104, 105, 106, 107, 108, 109, 110, 111, 112, 113, 114, 115, 116, 117, 118, 40, 41, 42, 43, 44, 19, 20, 21, 22, 5, 23, 24, 25, 26, 27, 28, 8, 29, 30, 31, 32, 33, 34, 119, 120, 121, 122, 123, 124, 125, 126, 127, 128, 129, 130, 131, 132, 133, 134, 135, 136, 137, 138, 139, 150, 151, 152, 153, 154, 155, 156, 157, 158, 159, 160, 161, 162, 163, 176, 177, 178, 179, 180, 181, 182, 183, 164, 165, 166, 167, 168, 169, 170, 171, 172, 173, 174, 175] (by decide +kernel) (by decide +kernel)
set_option maxRecDepth 20000 in
theorem gX5_ask_X5_bidsOver : GoodIn wsX5_ask (wsV RX5 147 RX5 yX5_bidsOver wsX5_bidsOver) := goodIn_app (goodIn_of _ (by decide +kernel)) ggX5_ask_X5_bidsOver
set_option maxRecDepth 20000 in
theorem ggX5_ask_X0_init : GoodIn wsX5_ask wsX0_init := goodIn_r _ [141, 142, 143, 144, 31, 32, 33, 34, 145, 171, 172, 173, 174, 175] (by decide +kernel) (by decide +kernel)
set_option maxRecDepth 20000 in
theorem gX5_ask_X0_init_n151 : GoodIn wsX5_ask (wsX0_init) := ggX5_ask_X0_init
set_option maxRecDepth 20000 in
theorem ggX5_ask_X5_enter : GoodIn wsX5_ask wsX5_enter := goodIn_r _ [149, 5, 27, 150, 151, 152, 153, 154, 155, 156, 157, 158, 159, 160, 161, 162, 163] (by decide +kernel) (by decide +kernel)
set_option maxRecDepth 20000 in
theorem gX5_ask_X5_enter : GoodIn wsX5_ask (wsV RX5 152 RX5 yX5_enter wsX5_enter) := goodIn_app (goodIn_of _ (by decide +kernel)) ggX5_ask_X5_enter
theorem dX5_ask_0 : decode cX5_ask 0 = .ok (.aload_n 0, 1) := by decide +kernel
theorem dX5_ask_1 : decode cX5_ask 1 = .ok (.iload_n 1, 1) := by decide +kernel
theorem dX5_ask_2 : decode cX5_ask 2 = .ok (.invokevirtual 109, 3) := by decide +kernel
theorem dX5_ask_5 : decode cX5_ask 5 = .ok (.astore_n 2, 1) := by decide +kernel
theorem dX5_ask_6 : decode cX5_ask 6 = .ok (.aload_n 2, 1) := by decide +kernel
theorem dX5_ask_7 : decode cX5_ask 7 = .ok (.ifnonnull 13, 3) := by decide +kernel
theorem dX5_ask_10 : decode cX5_ask 10 = .ok (.new 87, 3) := by decide +kernel
theorem dX5_ask_13 : decode cX5_ask 13 = .ok (.dup, 1) := by decide +kernel
theorem dX5_ask_14 : decode cX5_ask 14 = .ok (.ldc 113, 2) := by decide +kernel
theorem dX5_ask_16 : decode cX5_ask 16 = .ok (.invokespecial 91, 3) := by decide +kernel
theorem dX5_ask_19 : decode cX5_ask 19 = .ok (.athrow, 1) := by decide +kernel
theorem dX5_ask_20 : decode cX5_ask 20 = .ok (.aload_n 0, 1) := by decide +kernel
theorem dX5_ask_21 : decode cX5_ask 21 = .ok (.getfield 46, 3) := by decide +kernel
theorem dX5_ask_24 : decode cX5_ask 24 = .ok (.bipush 60, 2) := by decide +kernel
theorem dX5_ask_26 : decode cX5_ask 26 = .ok (.if_icmp .lt 13, 3) := by decide +kernel
theorem dX5_ask_29 : decode cX5_ask 29 = .ok (.new 97, 3) := by decide +kernel
theorem dX5_ask_32 : decode cX5_ask 32 = .ok (.dup, 1) := by decide +kernel
theorem dX5_ask_33 : decode cX5_ask 33 = .ok (.ldc 122, 2) := by decide +kernel
theorem dX5_ask_35 : decode cX5_ask 35 = .ok (.invokespecial 101, 3) := by decide +kernel
theorem dX5_ask_38 : decode cX5_ask 38 = .ok (.athrow, 1) := by decide +kernel
theorem dX5_ask_39 : decode cX5_ask 39 = .ok (.aload_n 2, 1) := by decide +kernel
theorem dX5_ask_40 : decode cX5_ask 40 = .ok (.dup, 1) := by decide +kernel
theorem dX5_ask_41 : decode cX5_ask 41 = .ok (.getfield 124, 3) := by decide +kernel
theorem dX5_ask_44 : decode cX5_ask 44 = .ok (.iconst 1, 1) := by decide +kernel
theorem dX5_ask_45 : decode cX5_ask 45 = .ok (.iadd, 1) := by decide +kernel
theorem dX5_ask_46 : decode cX5_ask 46 = .ok (.putfield 124, 3) := by decide +kernel
theorem dX5_ask_49 : decode cX5_ask 49 = .ok (.aload_n 0, 1) := by decide +kernel
theorem dX5_ask_50 : decode cX5_ask 50 = .ok (.aload_n 2, 1) := by decide +kernel
theorem dX5_ask_51 : decode cX5_ask 51 = .ok (.invokevirtual 127, 3) := by decide +kernel
theorem dX5_ask_54 : decode cX5_ask 54 = .ok (.ifCond .eq 9, 3) := by decide +kernel
theorem dX5_ask_57 : decode cX5_ask 57 = .ok (.aload_n 0, 1) := by decide +kernel
theorem dX5_ask_58 : decode cX5_ask 58 = .ok (.iconst (-1), 1) := by decide +kernel
theorem dX5_ask_59 : decode cX5_ask 59 = .ok (.invokevirtual 131, 3) := by decide +kernel
theorem dX5_ask_62 : decode cX5_ask 62 = .ok (.ireturn, 1) := by decide +kernel
theorem dX5_ask_63 : decode cX5_ask 63 = .ok (.aload_n 0, 1) := by decide +kernel
theorem dX5_ask_64 : decode cX5_ask 64 = .ok (.aload_n 2, 1) := by decide +kernel
theorem dX5_ask_65 : decode cX5_ask 65 = .ok (.invokevirtual 135, 3) := by decide +kernel
theorem dX5_ask_68 : decode cX5_ask 68 = .ok (.ifCond .eq 10, 3) := by decide +kernel
theorem dX5_ask_71 : decode cX5_ask 71 = .ok (.aload_n 0, 1) := by decide +kernel
theorem dX5_ask_72 : decode cX5_ask 72 = .ok (.bipush (-2), 2) := by decide +kernel
theorem dX5_ask_74 : decode cX5_ask 74 = .ok (.invokevirtual 131, 3) := by decide +kernel
theorem dX5_ask_77 : decode cX5_ask 77 = .ok (.ireturn, 1) := by decide +kernel
theorem dX5_ask_78 : decode cX5_ask 78 = .ok (.aload_n 2, 1) := by decide +kernel
theorem dX5_ask_79 : decode cX5_ask 79 = .ok (.getfield 138, 3) := by decide +kernel
theorem dX5_ask_82 : decode cX5_ask 82 = .ok (.aload_n 0, 1) := by decide +kernel
theorem dX5_ask_83 : decode cX5_ask 83 = .ok (.aload_n 2, 1) := by decide +kernel
theorem dX5_ask_84 : decode cX5_ask 84 = .ok (.getfield 141, 3) := by decide +kernel
theorem dX5_ask_87 : decode cX5_ask 87 = .ok (.aload_n 2, 1) := by decide +kernel
theorem dX5_ask_88 : decode cX5_ask 88 = .ok (.getfield 144, 3) := by decide +kernel
theorem dX5_ask_91 : decode cX5_ask 91 = .ok (.invokevirtual 147, 3) := by decide +kernel
theorem dX5_ask_94 : decode cX5_ask 94 = .ok (.if_icmp .ge 10, 3) := by decide +kernel
theorem dX5_ask_97 : decode cX5_ask 97 = .ok (.aload_n 0, 1) := by decide +kernel
theorem dX5_ask_98 : decode cX5_ask 98 = .ok (.bipush (-3), 2) := by decide +kernel
theorem dX5_ask_100 : decode cX5_ask 100 = .ok (.invokevirtual 131, 3) := by decide +kernel
theorem dX5_ask_103 : decode cX5_ask 103 = .ok (.ireturn, 1) := by decide +kernel
theorem dX5_ask_104 : decode cX5_ask 104 = .ok (.aload_n 0, 1) := by decide +kernel
theorem dX5_ask_105 : decode cX5_ask 105 = .ok (.new 22, 3) := by decide +kernel
theorem dX5_ask_108 : decode cX5_ask 108 = .ok (.dup, 1) := by decide +kernel
theorem dX5_ask_109 : decode cX5_ask 109 = .ok (.aload_n 2, 1) := by decide +kernel
theorem dX5_ask_110 : decode cX5_ask 110 = .ok (.getfield 141, 3) := by decide +kernel
theorem dX5_ask_113 : decode cX5_ask 113 = .ok (.aload_n 2, 1) := by decide +kernel
theorem dX5_ask_114 : decode cX5_ask 114 = .ok (.getfield 144, 3) := by decide +kernel
theorem dX5_ask_117 : decode cX5_ask 117 = .ok (.iconst 1, 1) := by decide +kernel
theorem dX5_ask_118 : decode cX5_ask 118 = .ok (.aload_n 2, 1) := by decide +kernel
theorem dX5_ask_119 : decode cX5_ask 119 = .ok (.getfield 138, 3) := by decide +kernel
theorem dX5_ask_122 : decode cX5_ask 122 = .ok (.invokespecial 151, 3) := by decide +kernel
theorem dX5_ask_125 : decode cX5_ask 125 = .ok (.invokevirtual 152, 3) := by decide +kernel
theorem dX5_ask_128 : decode cX5_ask 128 = .ok (.ireturn, 1) := by decide +kernel
set_option maxRecDepth 20000 in
theorem ggX5_group_X5_isLeg : GoodIn wsX5_group wsX5_isLeg := goodIn_r _ [14, 15, 16, 13, 17] (by decide +kernel) (by decide +kernel)
set_option maxRecDepth 20000 in
theorem gX5_group_X5_isLeg : GoodIn wsX5_group (va_wsS RX5 83 yX5_isLeg wsX5_isLeg) := goodIn_app (goodIn_of _ (by decide +kernel)) ggX5_group_X5_isLeg
set_option maxRecDepth 20000 in
theorem ggX5_group_X5_within : GoodIn wsX5_group wsX5_within := goodIn_r _ [17] (by decide +kernel) (by decide +kernel)
set_option maxRecDepth 20000 in
theorem gX5_group_X5_within : GoodIn wsX5_group (va_wsS RX5 68 yX5_within wsX5_within) := goodIn_app (goodIn_of _ (by decide +kernel)) ggX5_group_X5_within
set_option maxRecDepth 20000 in
theorem ggX5_group_X5_hasLeft : GoodIn wsX5_group wsX5_hasLeft := goodIn_r _ [21, 22, 23, 24, 13, 25, 26, 27, 28, 29, 30, 31, 32, 33, 34, 35, 36, 37, 38, 7, 39, 40, 41, 42, 43, 44, 10, 45, 46, 47, 48, 49, 50, 126, 127, 128, 129, 130, 131, 132, 133, 134, 135, 136, 137, 138, 139, 140, 141, 142, 143, 144] (by decide +kernel) (by decide +kernel)
set_option maxRecDepth 20000 in
theorem gX5_group_X5_hasLeft : GoodIn wsX5_group (wsV RX5 158 RX5 yX5_hasLeft wsX5_hasLeft) := goodIn_app (goodIn_of _ (by decide +kernel)) ggX5_group_X5_hasLeft
set_option maxRecDepth 20000 in
theorem ggX5_group_X5_refuse : GoodIn wsX5_group wsX5_refuse := goodIn_r _ [54, 55, 56, 57, 126, 127, 128, 129, 130, 131, 132, 133, 134, 135, 136, 137, 138, 139] (by decide +kernel) (by decide +kernel)
set_option maxRecDepth 20000 in
theorem gX5_group_X5_refuse : GoodIn wsX5_group (wsV RX5 131 RX5 yX5_refuse wsX5_refuse) := goodIn_app (goodIn_of _ (by decide +kernel)) ggX5_group_X5_refuse
set_option maxRecDepth 20000 in
theorem ggX5_group_X5_displacement : GoodIn wsX5_group wsX5_displacement := goodIn_r _ [61, 62, 63, 64, 13, 65, 66, 67, 68, 69, 70, 71, 72, 73, 74, 75, 76, 77, 78, 79, 80, 81, 82, 83, 84, 85, 86, 87, 88, 89, 90, 91, 27, 28, 29, 92, 93, 94, 95, 96, 97, 22, 23, 24, 25, 26, 30, 31, 32, 33, 34, 35, 36, 37, 38, 7, 39, 40, 41, 42, 43, 44, 10, 45, 46, 47, 48, 49, 50, 15, 16, 17, 98, 99, 100, 101, 102, 103, 104, 105, 106, 107, 108, 109, 110, 111, 112, 113, 114, 115, 126, 127, 128, 129, 130, 131, 132, 133, 134, 135, 136, 137, 138, 139, 145, 146, 147, 148, 149, 150, 151, 152, 153, 154, 155, 156, 157, 158, 159, 140, 141, 142, 143, 144] (by decide +kernel) (by decide +kernel)
set_option maxRecDepth 20000 in
theorem gX5_group_X5_displacement : GoodIn wsX5_group (wsV RX5 161 RX5 yX5_displacement wsX5_displacement) := goodIn_app (goodIn_of _ (by decide +kernel)) ggX5_group_X5_displacement
set_option maxRecDepth 20000 in
theorem ggX5_group_X0_init : GoodIn wsX5_group wsX0_init := goodIn_r _ [117, 118, 119, 120, 47, 48, 49, 50, 121, 140, 141, 142, 143, 144] (by decide +kernel) (by decide +kernel)
set_option maxRecDepth 20000 in
theorem gX5_group_X0_init_n151 : GoodIn wsX5_group (wsX0_init) := ggX5_group_X0_init
set_option maxRecDepth 20000 in
theorem ggX5_group_X5_enter : GoodIn wsX5_group wsX5_enter := goodIn_r _ [125, 7, 43, 126, 127, 128, 129, 130, 131, 132, 133, 134, 135, 136, 137, 138, 139] (by decide +kernel) (by decide +kernel)
set_option maxRecDepth 20000 in
theorem gX5_group_X5_enter : GoodIn wsX5_group (wsV RX5 152 RX5 yX5_enter wsX5_enter) := goodIn_app (goodIn_of _ (by decide +kernel)) ggX5_group_X5_enter
theorem dX5_group_0 : decode cX5_group 0 = .ok (.iload_n 1, 1) := by decide +kernel
theorem dX5_group_1 : decode cX5_group 1 = .ok (.invokestatic 83, 3) := by decide +kernel
theorem dX5_group_4 : decode cX5_group 4 = .ok (.ifCond .eq 10, 3) := by decide +kernel
theorem dX5_group_7 : decode cX5_group 7 = .ok (.iload_n 2, 1) := by decide +kernel
theorem dX5_group_8 : decode cX5_group 8 = .ok (.invokestatic 83, 3) := by decide +kernel
theorem dX5_group_11 : decode cX5_group 11 = .ok (.ifCond .ne 13, 3) := by decide +kernel
theorem dX5_group_14 : decode cX5_group 14 = .ok (.new 87, 3) := by decide +kernel
theorem dX5_group_17 : decode cX5_group 17 = .ok (.dup, 1) := by decide +kernel
theorem dX5_group_18 : decode cX5_group 18 = .ok (.ldc 89, 2) := by decide +kernel
theorem dX5_group_20 : decode cX5_group 20 = .ok (.invokespecial 91, 3) := by decide +kernel
theorem dX5_group_23 : decode cX5_group 23 = .ok (.athrow, 1) := by decide +kernel
theorem dX5_group_24 : decode cX5_group 24 = .ok (.iload_n 2, 1) := by decide +kernel
theorem dX5_group_25 : decode cX5_group 25 = .ok (.iload_n 1, 1) := by decide +kernel
theorem dX5_group_26 : decode cX5_group 26 = .ok (.if_icmp .lt 25, 3) := by decide +kernel
theorem dX5_group_29 : decode cX5_group 29 = .ok (.iload_n 3, 1) := by decide +kernel
theorem dX5_group_30 : decode cX5_group 30 = .ok (.iconst 1, 1) := by decide +kernel
theorem dX5_group_31 : decode cX5_group 31 = .ok (.bipush 10, 2) := by decide +kernel
theorem dX5_group_33 : decode cX5_group 33 = .ok (.invokestatic 68, 3) := by decide +kernel
theorem dX5_group_36 : decode cX5_group 36 = .ok (.ifCond .eq 15, 3) := by decide +kernel
theorem dX5_group_39 : decode cX5_group 39 = .ok (.iload 4, 2) := by decide +kernel
theorem dX5_group_41 : decode cX5_group 41 = .ok (.iconst 1, 1) := by decide +kernel
theorem dX5_group_42 : decode cX5_group 42 = .ok (.sipush 3000, 3) := by decide +kernel
theorem dX5_group_45 : decode cX5_group 45 = .ok (.invokestatic 68, 3) := by decide +kernel
theorem dX5_group_48 : decode cX5_group 48 = .ok (.ifCond .ne 13, 3) := by decide +kernel
theorem dX5_group_51 : decode cX5_group 51 = .ok (.new 72, 3) := by decide +kernel
theorem dX5_group_54 : decode cX5_group 54 = .ok (.dup, 1) := by decide +kernel
theorem dX5_group_55 : decode cX5_group 55 = .ok (.ldc 156, 2) := by decide +kernel
theorem dX5_group_57 : decode cX5_group 57 = .ok (.invokespecial 76, 3) := by decide +kernel
theorem dX5_group_60 : decode cX5_group 60 = .ok (.athrow, 1) := by decide +kernel
theorem dX5_group_61 : decode cX5_group 61 = .ok (.aload_n 0, 1) := by decide +kernel
theorem dX5_group_62 : decode cX5_group 62 = .ok (.getfield 46, 3) := by decide +kernel
theorem dX5_group_65 : decode cX5_group 65 = .ok (.bipush 60, 2) := by decide +kernel
theorem dX5_group_67 : decode cX5_group 67 = .ok (.if_icmp .lt 13, 3) := by decide +kernel
theorem dX5_group_70 : decode cX5_group 70 = .ok (.new 97, 3) := by decide +kernel
theorem dX5_group_73 : decode cX5_group 73 = .ok (.dup, 1) := by decide +kernel
theorem dX5_group_74 : decode cX5_group 74 = .ok (.ldc 122, 2) := by decide +kernel
theorem dX5_group_76 : decode cX5_group 76 = .ok (.invokespecial 101, 3) := by decide +kernel
theorem dX5_group_79 : decode cX5_group 79 = .ok (.athrow, 1) := by decide +kernel
theorem dX5_group_80 : decode cX5_group 80 = .ok (.aload_n 0, 1) := by decide +kernel
theorem dX5_group_81 : decode cX5_group 81 = .ok (.iload_n 1, 1) := by decide +kernel
theorem dX5_group_82 : decode cX5_group 82 = .ok (.iload_n 2, 1) := by decide +kernel
theorem dX5_group_83 : decode cX5_group 83 = .ok (.iload_n 3, 1) := by decide +kernel
theorem dX5_group_84 : decode cX5_group 84 = .ok (.invokevirtual 158, 3) := by decide +kernel
theorem dX5_group_87 : decode cX5_group 87 = .ok (.ifCond .ne 9, 3) := by decide +kernel
theorem dX5_group_90 : decode cX5_group 90 = .ok (.aload_n 0, 1) := by decide +kernel
theorem dX5_group_91 : decode cX5_group 91 = .ok (.iconst (-1), 1) := by decide +kernel
theorem dX5_group_92 : decode cX5_group 92 = .ok (.invokevirtual 131, 3) := by decide +kernel
theorem dX5_group_95 : decode cX5_group 95 = .ok (.ireturn, 1) := by decide +kernel
theorem dX5_group_96 : decode cX5_group 96 = .ok (.iload 4, 2) := by decide +kernel
theorem dX5_group_98 : decode cX5_group 98 = .ok (.iload_n 3, 1) := by decide +kernel
theorem dX5_group_99 : decode cX5_group 99 = .ok (.imul, 1) := by decide +kernel
theorem dX5_group_100 : decode cX5_group 100 = .ok (.istore 5, 2) := by decide +kernel
theorem dX5_group_102 : decode cX5_group 102 = .ok (.iload 5, 2) := by decide +kernel
theorem dX5_group_104 : decode cX5_group 104 = .ok (.aload_n 0, 1) := by decide +kernel
theorem dX5_group_105 : decode cX5_group 105 = .ok (.iload_n 1, 1) := by decide +kernel
theorem dX5_group_106 : decode cX5_group 106 = .ok (.iload_n 2, 1) := by decide +kernel
theorem dX5_group_107 : decode cX5_group 107 = .ok (.iload_n 3, 1) := by decide +kernel
theorem dX5_group_108 : decode cX5_group 108 = .ok (.invokevirtual 161, 3) := by decide +kernel
theorem dX5_group_111 : decode cX5_group 111 = .ok (.if_icmp .ge 10, 3) := by decide +kernel
theorem dX5_group_114 : decode cX5_group 114 = .ok (.aload_n 0, 1) := by decide +kernel
theorem dX5_group_115 : decode cX5_group 115 = .ok (.bipush (-3), 2) := by decide +kernel
theorem dX5_group_117 : decode cX5_group 117 = .ok (.invokevirtual 131, 3) := by decide +kernel
theorem dX5_group_120 : decode cX5_group 120 = .ok (.ireturn, 1) := by decide +kernel
theorem dX5_group_121 : decode cX5_group 121 = .ok (.aload_n 0, 1) := by decide +kernel
theorem dX5_group_122 : decode cX5_group 122 = .ok (.new 22, 3) := by decide +kernel
theorem dX5_group_125 : decode cX5_group 125 = .ok (.dup, 1) := by decide +kernel
theorem dX5_group_126 : decode cX5_group 126 = .ok (.iload_n 1, 1) := by decide +kernel
theorem dX5_group_127 : decode cX5_group 127 = .ok (.iload_n 2, 1) := by decide +kernel
theorem dX5_group_128 : decode cX5_group 128 = .ok (.iload_n 3, 1) := by decide +kernel
theorem dX5_group_129 : decode cX5_group 129 = .ok (.iload 5, 2) := by decide +kernel
theorem dX5_group_131 : decode cX5_group 131 = .ok (.invokespecial 151, 3) := by decide +kernel
theorem dX5_group_134 : decode cX5_group 134 = .ok (.invokevirtual 152, 3) := by decide +kernel
theorem dX5_group_137 : decode cX5_group 137 = .ok (.ireturn, 1) := by decide +kernel
set_option maxRecDepth 20000 in
theorem ggX5_cancel_X5_bookingAt : GoodIn wsX5_cancel wsX5_bookingAt := goodIn_r _ [9, 10, 11, 17, 18, 19, 20, 21, 22, 23, 24, 25, 26, 27, 28, 29, 30] (by decide +kernel) (by decide +kernel)
set_option maxRecDepth 20000 in
theorem gX5_cancel_X5_bookingAt : GoodIn wsX5_cancel (wsV RX5 165 RX5 yX5_bookingAt wsX5_bookingAt) := goodIn_app (goodIn_of _ (by decide +kernel)) ggX5_cancel_X5_bookingAt
theorem dX5_cancel_0 : decode cX5_cancel 0 = .ok (.aload_n 0, 1) := by decide +kernel
theorem dX5_cancel_1 : decode cX5_cancel 1 = .ok (.iload_n 1, 1) := by decide +kernel
theorem dX5_cancel_2 : decode cX5_cancel 2 = .ok (.invokevirtual 165, 3) := by decide +kernel
theorem dX5_cancel_5 : decode cX5_cancel 5 = .ok (.astore_n 2, 1) := by decide +kernel
theorem dX5_cancel_6 : decode cX5_cancel 6 = .ok (.aload_n 2, 1) := by decide +kernel
theorem dX5_cancel_7 : decode cX5_cancel 7 = .ok (.ifnonnull 13, 3) := by decide +kernel
theorem dX5_cancel_10 : decode cX5_cancel 10 = .ok (.new 87, 3) := by decide +kernel
theorem dX5_cancel_13 : decode cX5_cancel 13 = .ok (.dup, 1) := by decide +kernel
theorem dX5_cancel_14 : decode cX5_cancel 14 = .ok (.ldc 169, 2) := by decide +kernel
theorem dX5_cancel_16 : decode cX5_cancel 16 = .ok (.invokespecial 91, 3) := by decide +kernel
theorem dX5_cancel_19 : decode cX5_cancel 19 = .ok (.athrow, 1) := by decide +kernel
theorem dX5_cancel_20 : decode cX5_cancel 20 = .ok (.aload_n 2, 1) := by decide +kernel
theorem dX5_cancel_21 : decode cX5_cancel 21 = .ok (.getfield 171, 3) := by decide +kernel
theorem dX5_cancel_24 : decode cX5_cancel 24 = .ok (.ifCond .eq 13, 3) := by decide +kernel
theorem dX5_cancel_27 : decode cX5_cancel 27 = .ok (.new 97, 3) := by decide +kernel
theorem dX5_cancel_30 : decode cX5_cancel 30 = .ok (.dup, 1) := by decide +kernel
theorem dX5_cancel_31 : decode cX5_cancel 31 = .ok (.ldc 175, 2) := by decide +kernel
theorem dX5_cancel_33 : decode cX5_cancel 33 = .ok (.invokespecial 101, 3) := by decide +kernel
theorem dX5_cancel_36 : decode cX5_cancel 36 = .ok (.athrow, 1) := by decide +kernel
theorem dX5_cancel_37 : decode cX5_cancel 37 = .ok (.aload_n 2, 1) := by decide +kernel
theorem dX5_cancel_38 : decode cX5_cancel 38 = .ok (.iconst 1, 1) := by decide +kernel
theorem dX5_cancel_39 : decode cX5_cancel 39 = .ok (.putfield 171, 3) := by decide +kernel
theorem dX5_cancel_42 : decode cX5_cancel 42 = .ok (.aload_n 2, 1) := by decide +kernel
theorem dX5_cancel_43 : decode cX5_cancel 43 = .ok (.getfield 177, 3) := by decide +kernel
theorem dX5_cancel_46 : decode cX5_cancel 46 = .ok (.ireturn, 1) := by decide +kernel
set_option maxRecDepth 20000 in
theorem ggX5_endDay_X5_within : GoodIn wsX5_endDay wsX5_within := goodIn_r _ [8] (by decide +kernel) (by decide +kernel)
set_option maxRecDepth 20000 in
theorem gX5_endDay_X5_within : GoodIn wsX5_endDay (va_wsS RX5 68 yX5_within wsX5_within) := goodIn_app (goodIn_of _ (by decide +kernel)) ggX5_endDay_X5_within
set_option maxRecDepth 20000 in
theorem ggX5_endDay_X5_deniedOn : GoodIn wsX5_endDay wsX5_deniedOn := goodIn_r _ [12, 13, 14, 15, 16, 17, 18, 19, 7, 20, 4, 21, 22, 23, 24, 25, 26, 27, 28, 29, 30, 31, 32, 33, 34, 35, 36, 37, 38, 60, 61, 62, 63, 64, 65, 66, 67, 68, 69, 70, 71, 72, 73, 74, 75, 76, 77, 78] (by decide +kernel) (by decide +kernel)
set_option maxRecDepth 20000 in
theorem gX5_endDay_X5_deniedOn : GoodIn wsX5_endDay (wsV RX5 181 RX5 yX5_deniedOn wsX5_deniedOn) := goodIn_app (goodIn_of _ (by decide +kernel)) ggX5_endDay_X5_deniedOn
set_option maxRecDepth 20000 in
theorem ggX5_endDay_X5_faresOfToday : GoodIn wsX5_endDay wsX5_faresOfToday := goodIn_r _ [42, 4, 21, 22, 23, 7, 24, 25, 60, 61, 62, 63, 64, 65, 66, 67, 68, 69, 70, 71, 72, 73, 74, 75, 76, 77, 78] (by decide +kernel) (by decide +kernel)
set_option maxRecDepth 20000 in
theorem gX5_endDay_X5_faresOfToday : GoodIn wsX5_endDay (wsV RX5 184 RX5 yX5_faresOfToday wsX5_faresOfToday) := goodIn_app (goodIn_of _ (by decide +kernel)) ggX5_endDay_X5_faresOfToday
set_option maxRecDepth 20000 in
theorem ggX5_endDay_X5_learn : GoodIn wsX5_endDay wsX5_learn := goodIn_r _ [46, 47, 48, 49, 50, 51, 52, 53, 54, 55, 15, 56, 57, 58, 59, 60, 61, 62, 63, 64, 65, 66, 67, 68, 69, 70, 71, 72, 73, 79, 80, 81, 82, 83, 84, 85] (by decide +kernel) (by decide +kernel)
set_option maxRecDepth 20000 in
theorem gX5_endDay_X5_learn : GoodIn wsX5_endDay (wsV RX5 188 RX5 yX5_learn wsX5_learn) := goodIn_app (goodIn_of _ (by decide +kernel)) ggX5_endDay_X5_learn
theorem dX5_endDay_0 : decode cX5_endDay 0 = .ok (.iload_n 1, 1) := by decide +kernel
theorem dX5_endDay_1 : decode cX5_endDay 1 = .ok (.iconst 0, 1) := by decide +kernel
theorem dX5_endDay_2 : decode cX5_endDay 2 = .ok (.bipush 100, 2) := by decide +kernel
theorem dX5_endDay_4 : decode cX5_endDay 4 = .ok (.invokestatic 68, 3) := by decide +kernel
theorem dX5_endDay_7 : decode cX5_endDay 7 = .ok (.ifCond .ne 13, 3) := by decide +kernel
theorem dX5_endDay_10 : decode cX5_endDay 10 = .ok (.new 72, 3) := by decide +kernel
theorem dX5_endDay_13 : decode cX5_endDay 13 = .ok (.dup, 1) := by decide +kernel
theorem dX5_endDay_14 : decode cX5_endDay 14 = .ok (.ldc 179, 2) := by decide +kernel
theorem dX5_endDay_16 : decode cX5_endDay 16 = .ok (.invokespecial 76, 3) := by decide +kernel
theorem dX5_endDay_19 : decode cX5_endDay 19 = .ok (.athrow, 1) := by decide +kernel
theorem dX5_endDay_20 : decode cX5_endDay 20 = .ok (.iconst 0, 1) := by decide +kernel
theorem dX5_endDay_21 : decode cX5_endDay 21 = .ok (.istore_n 2, 1) := by decide +kernel
theorem dX5_endDay_22 : decode cX5_endDay 22 = .ok (.iconst 0, 1) := by decide +kernel
theorem dX5_endDay_23 : decode cX5_endDay 23 = .ok (.istore_n 3, 1) := by decide +kernel
theorem dX5_endDay_24 : decode cX5_endDay 24 = .ok (.iload_n 3, 1) := by decide +kernel
theorem dX5_endDay_25 : decode cX5_endDay 25 = .ok (.iconst 3, 1) := by decide +kernel
theorem dX5_endDay_26 : decode cX5_endDay 26 = .ok (.if_icmp .ge 18, 3) := by decide +kernel
theorem dX5_endDay_29 : decode cX5_endDay 29 = .ok (.iload_n 2, 1) := by decide +kernel
theorem dX5_endDay_30 : decode cX5_endDay 30 = .ok (.aload_n 0, 1) := by decide +kernel
theorem dX5_endDay_31 : decode cX5_endDay 31 = .ok (.iload_n 3, 1) := by decide +kernel
theorem dX5_endDay_32 : decode cX5_endDay 32 = .ok (.iload_n 1, 1) := by decide +kernel
theorem dX5_endDay_33 : decode cX5_endDay 33 = .ok (.invokevirtual 181, 3) := by decide +kernel
theorem dX5_endDay_36 : decode cX5_endDay 36 = .ok (.iadd, 1) := by decide +kernel
theorem dX5_endDay_37 : decode cX5_endDay 37 = .ok (.istore_n 2, 1) := by decide +kernel
theorem dX5_endDay_38 : decode cX5_endDay 38 = .ok (.iinc 3 1, 3) := by decide +kernel
theorem dX5_endDay_41 : decode cX5_endDay 41 = .ok (.goto (-17), 3) := by decide +kernel
theorem dX5_endDay_44 : decode cX5_endDay 44 = .ok (.aload_n 0, 1) := by decide +kernel
theorem dX5_endDay_45 : decode cX5_endDay 45 = .ok (.dup, 1) := by decide +kernel
theorem dX5_endDay_46 : decode cX5_endDay 46 = .ok (.getfield 64, 3) := by decide +kernel
theorem dX5_endDay_49 : decode cX5_endDay 49 = .ok (.aload_n 0, 1) := by decide +kernel
theorem dX5_endDay_50 : decode cX5_endDay 50 = .ok (.invokevirtual 184, 3) := by decide +kernel
theorem dX5_endDay_53 : decode cX5_endDay 53 = .ok (.bipush 100, 2) := by decide +kernel
theorem dX5_endDay_55 : decode cX5_endDay 55 = .ok (.iload_n 2, 1) := by decide +kernel
theorem dX5_endDay_56 : decode cX5_endDay 56 = .ok (.imul, 1) := by decide +kernel
theorem dX5_endDay_57 : decode cX5_endDay 57 = .ok (.isub, 1) := by decide +kernel
theorem dX5_endDay_58 : decode cX5_endDay 58 = .ok (.i2l, 1) := by decide +kernel
theorem dX5_endDay_59 : decode cX5_endDay 59 = .ok (.ladd, 1) := by decide +kernel
theorem dX5_endDay_60 : decode cX5_endDay 60 = .ok (.putfield 64, 3) := by decide +kernel
theorem dX5_endDay_63 : decode cX5_endDay 63 = .ok (.aload_n 0, 1) := by decide +kernel
theorem dX5_endDay_64 : decode cX5_endDay 64 = .ok (.invokevirtual 188, 3) := by decide +kernel
theorem dX5_endDay_67 : decode cX5_endDay 67 = .ok (.aload_n 0, 1) := by decide +kernel
theorem dX5_endDay_68 : decode cX5_endDay 68 = .ok (.iconst 0, 1) := by decide +kernel
theorem dX5_endDay_69 : decode cX5_endDay 69 = .ok (.putfield 46, 3) := by decide +kernel
theorem dX5_endDay_72 : decode cX5_endDay 72 = .ok (.iload_n 2, 1) := by decide +kernel
theorem dX5_endDay_73 : decode cX5_endDay 73 = .ok (.ireturn, 1) := by decide +kernel
theorem dX5_products_0 : decode cX5_products 0 = .ok (.aload_n 0, 1) := by decide +kernel
theorem dX5_products_1 : decode cX5_products 1 = .ok (.getfield 42, 3) := by decide +kernel
theorem dX5_products_4 : decode cX5_products 4 = .ok (.ireturn, 1) := by decide +kernel
theorem dX5_days_0 : decode cX5_days 0 = .ok (.aload_n 0, 1) := by decide +kernel
theorem dX5_days_1 : decode cX5_days 1 = .ok (.getfield 49, 3) := by decide +kernel
theorem dX5_days_4 : decode cX5_days 4 = .ok (.ireturn, 1) := by decide +kernel
set_option maxRecDepth 20000 in
theorem ggX5_booked_X5_isLeg : GoodIn wsX5_booked wsX5_isLeg := goodIn_r _ [6, 7, 8, 5, 9] (by decide +kernel) (by decide +kernel)
set_option maxRecDepth 20000 in
theorem gX5_booked_X5_isLeg : GoodIn wsX5_booked (va_wsS RX5 83 yX5_isLeg wsX5_isLeg) := goodIn_app (goodIn_of _ (by decide +kernel)) ggX5_booked_X5_isLeg
set_option maxRecDepth 20000 in
theorem ggX5_booked_X5_bookedOn : GoodIn wsX5_booked wsX5_bookedOn := goodIn_r _ [13, 14, 15, 16, 17, 5, 18, 19, 20, 21, 22, 23, 24, 25, 26, 27, 28, 29, 30, 31, 32, 33, 34, 35, 36, 37, 38, 39, 40, 41, 42, 43, 44, 45, 46] (by decide +kernel) (by decide +kernel)
set_option maxRecDepth 20000 in
theorem gX5_booked_X5_bookedOn : GoodIn wsX5_booked (wsV RX5 191 RX5 yX5_bookedOn wsX5_bookedOn) := goodIn_app (goodIn_of _ (by decide +kernel)) ggX5_booked_X5_bookedOn
theorem dX5_booked_0 : decode cX5_booked 0 = .ok (.iload_n 1, 1) := by decide +kernel
theorem dX5_booked_1 : decode cX5_booked 1 = .ok (.invokestatic 83, 3) := by decide +kernel
theorem dX5_booked_4 : decode cX5_booked 4 = .ok (.ifCond .ne 13, 3) := by decide +kernel
theorem dX5_booked_7 : decode cX5_booked 7 = .ok (.new 87, 3) := by decide +kernel
theorem dX5_booked_10 : decode cX5_booked 10 = .ok (.dup, 1) := by decide +kernel
theorem dX5_booked_11 : decode cX5_booked 11 = .ok (.ldc 89, 2) := by decide +kernel
theorem dX5_booked_13 : decode cX5_booked 13 = .ok (.invokespecial 91, 3) := by decide +kernel
theorem dX5_booked_16 : decode cX5_booked 16 = .ok (.athrow, 1) := by decide +kernel
theorem dX5_booked_17 : decode cX5_booked 17 = .ok (.aload_n 0, 1) := by decide +kernel
theorem dX5_booked_18 : decode cX5_booked 18 = .ok (.iload_n 1, 1) := by decide +kernel
theorem dX5_booked_19 : decode cX5_booked 19 = .ok (.invokevirtual 191, 3) := by decide +kernel
theorem dX5_booked_22 : decode cX5_booked 22 = .ok (.ireturn, 1) := by decide +kernel
set_option maxRecDepth 20000 in
theorem ggX5_authorised_X5_isLeg : GoodIn wsX5_authorised wsX5_isLeg := goodIn_r _ [6, 7, 8, 5, 9] (by decide +kernel) (by decide +kernel)
set_option maxRecDepth 20000 in
theorem gX5_authorised_X5_isLeg : GoodIn wsX5_authorised (va_wsS RX5 83 yX5_isLeg wsX5_isLeg) := goodIn_app (goodIn_of _ (by decide +kernel)) ggX5_authorised_X5_isLeg
set_option maxRecDepth 20000 in
theorem ggX5_authorised_X5_authorisedOn : GoodIn wsX5_authorised wsX5_authorisedOn := goodIn_r _ [13, 14, 15, 16, 17, 5, 18, 19, 20, 21, 22, 23, 24, 25, 26, 27, 28, 29, 30, 31, 32, 33] (by decide +kernel) (by decide +kernel)
set_option maxRecDepth 20000 in
theorem gX5_authorised_X5_authorisedOn : GoodIn wsX5_authorised (wsV RX5 194 RX5 yX5_authorisedOn wsX5_authorisedOn) := goodIn_app (goodIn_of _ (by decide +kernel)) ggX5_authorised_X5_authorisedOn
theorem dX5_authorised_0 : decode cX5_authorised 0 = .ok (.iload_n 1, 1) := by decide +kernel
theorem dX5_authorised_1 : decode cX5_authorised 1 = .ok (.invokestatic 83, 3) := by decide +kernel
theorem dX5_authorised_4 : decode cX5_authorised 4 = .ok (.ifCond .ne 13, 3) := by decide +kernel
theorem dX5_authorised_7 : decode cX5_authorised 7 = .ok (.new 87, 3) := by decide +kernel
theorem dX5_authorised_10 : decode cX5_authorised 10 = .ok (.dup, 1) := by decide +kernel
theorem dX5_authorised_11 : decode cX5_authorised 11 = .ok (.ldc 89, 2) := by decide +kernel
theorem dX5_authorised_13 : decode cX5_authorised 13 = .ok (.invokespecial 91, 3) := by decide +kernel
theorem dX5_authorised_16 : decode cX5_authorised 16 = .ok (.athrow, 1) := by decide +kernel
theorem dX5_authorised_17 : decode cX5_authorised 17 = .ok (.aload_n 0, 1) := by decide +kernel
theorem dX5_authorised_18 : decode cX5_authorised 18 = .ok (.iload_n 1, 1) := by decide +kernel
theorem dX5_authorised_19 : decode cX5_authorised 19 = .ok (.invokevirtual 194, 3) := by decide +kernel
theorem dX5_authorised_22 : decode cX5_authorised 22 = .ok (.ireturn, 1) := by decide +kernel
set_option maxRecDepth 20000 in
theorem ggX5_protectedSeats_X5_isLeg : GoodIn wsX5_protectedSeats wsX5_isLeg := goodIn_r _ [8, 9, 10, 7, 11] (by decide +kernel) (by decide +kernel)
set_option maxRecDepth 20000 in
theorem gX5_protectedSeats_X5_isLeg : GoodIn wsX5_protectedSeats (va_wsS RX5 83 yX5_isLeg wsX5_isLeg) := goodIn_app (goodIn_of _ (by decide +kernel)) ggX5_protectedSeats_X5_isLeg
set_option maxRecDepth 20000 in
theorem ggX5_protectedSeats_X5_within : GoodIn wsX5_protectedSeats wsX5_within := goodIn_r _ [11] (by decide +kernel) (by decide +kernel)
set_option maxRecDepth 20000 in
theorem gX5_protectedSeats_X5_within : GoodIn wsX5_protectedSeats (va_wsS RX5 68 yX5_within wsX5_within) := goodIn_app (goodIn_of _ (by decide +kernel)) ggX5_protectedSeats_X5_within
set_option maxRecDepth 20000 in
theorem ggX5_protectedSeats_X5_protectedOn : GoodIn wsX5_protectedSeats wsX5_protectedOn := goodIn_r _ [15, 16, 17, 18, 19, 20, 21, 22, 23, 24, 25, 26, 27, 28, 29, 30, 31, 32, 33, 34, 35, 36, 37, 38, 39, 40, 41, 42, 43, 44, 45, 46, 47, 48, 49] (by decide +kernel) (by decide +kernel)
set_option maxRecDepth 20000 in
theorem gX5_protectedSeats_X5_protectedOn : GoodIn wsX5_protectedSeats (wsV RX5 199 RX5 yX5_protectedOn wsX5_protectedOn) := goodIn_app (goodIn_of _ (by decide +kernel)) ggX5_protectedSeats_X5_protectedOn
theorem dX5_protectedSeats_0 : decode cX5_protectedSeats 0 = .ok (.iload_n 1, 1) := by decide +kernel
theorem dX5_protectedSeats_1 : decode cX5_protectedSeats 1 = .ok (.invokestatic 83, 3) := by decide +kernel
theorem dX5_protectedSeats_4 : decode cX5_protectedSeats 4 = .ok (.ifCond .ne 13, 3) := by decide +kernel
theorem dX5_protectedSeats_7 : decode cX5_protectedSeats 7 = .ok (.new 87, 3) := by decide +kernel
theorem dX5_protectedSeats_10 : decode cX5_protectedSeats 10 = .ok (.dup, 1) := by decide +kernel
theorem dX5_protectedSeats_11 : decode cX5_protectedSeats 11 = .ok (.ldc 89, 2) := by decide +kernel
theorem dX5_protectedSeats_13 : decode cX5_protectedSeats 13 = .ok (.invokespecial 91, 3) := by decide +kernel
theorem dX5_protectedSeats_16 : decode cX5_protectedSeats 16 = .ok (.athrow, 1) := by decide +kernel
theorem dX5_protectedSeats_17 : decode cX5_protectedSeats 17 = .ok (.iload_n 2, 1) := by decide +kernel
theorem dX5_protectedSeats_18 : decode cX5_protectedSeats 18 = .ok (.iconst 1, 1) := by decide +kernel
theorem dX5_protectedSeats_19 : decode cX5_protectedSeats 19 = .ok (.sipush 1000, 3) := by decide +kernel
theorem dX5_protectedSeats_22 : decode cX5_protectedSeats 22 = .ok (.invokestatic 68, 3) := by decide +kernel
theorem dX5_protectedSeats_25 : decode cX5_protectedSeats 25 = .ok (.ifCond .ne 13, 3) := by decide +kernel
theorem dX5_protectedSeats_28 : decode cX5_protectedSeats 28 = .ok (.new 72, 3) := by decide +kernel
theorem dX5_protectedSeats_31 : decode cX5_protectedSeats 31 = .ok (.dup, 1) := by decide +kernel
theorem dX5_protectedSeats_32 : decode cX5_protectedSeats 32 = .ok (.ldc 197, 2) := by decide +kernel
theorem dX5_protectedSeats_34 : decode cX5_protectedSeats 34 = .ok (.invokespecial 76, 3) := by decide +kernel
theorem dX5_protectedSeats_37 : decode cX5_protectedSeats 37 = .ok (.athrow, 1) := by decide +kernel
theorem dX5_protectedSeats_38 : decode cX5_protectedSeats 38 = .ok (.aload_n 0, 1) := by decide +kernel
theorem dX5_protectedSeats_39 : decode cX5_protectedSeats 39 = .ok (.iload_n 1, 1) := by decide +kernel
theorem dX5_protectedSeats_40 : decode cX5_protectedSeats 40 = .ok (.iload_n 2, 1) := by decide +kernel
theorem dX5_protectedSeats_41 : decode cX5_protectedSeats 41 = .ok (.invokevirtual 199, 3) := by decide +kernel
theorem dX5_protectedSeats_44 : decode cX5_protectedSeats 44 = .ok (.ireturn, 1) := by decide +kernel
set_option maxRecDepth 20000 in
theorem ggX5_worth_X5_worthWithMore : GoodIn wsX5_worth wsX5_worthWithMore := goodIn_r _ [5, 6, 7, 8, 9, 10, 11, 12, 13, 14, 15, 16, 17, 18, 19, 20, 21, 22, 23, 24, 25, 26, 27, 28, 29, 30, 31, 32, 33, 34, 35, 36, 37, 38, 39, 40, 41, 42, 43, 4, 44, 45, 46, 47, 48, 49, 50, 51, 52, 53, 54, 55, 56, 57, 58, 59, 60, 61, 62, 63, 64, 65, 66, 67, 68, 69, 70, 71, 72, 73, 74, 75, 76, 77, 78, 79, 80, 81, 82, 83, 84, 85, 86, 87, 88, 89, 90, 91, 92, 93, 94, 95, 96, 97, 98, 99, 100, 101, 102, 103, 104, 105, 106, 107, 108, 109, 110, 111, 112, 113, 114, 115, 116, 117, 118, 119, 120, 121, 122, 123] (by decide +kernel) (by decide +kernel)
set_option maxRecDepth 20000 in
theorem gX5_worth_X5_worthWithMore : GoodIn wsX5_worth (wsV RX5 202 RX5 yX5_worthWithMore wsX5_worthWithMore) := goodIn_app (goodIn_of _ (by decide +kernel)) ggX5_worth_X5_worthWithMore
theorem dX5_worth_0 : decode cX5_worth 0 = .ok (.aload_n 0, 1) := by decide +kernel
theorem dX5_worth_1 : decode cX5_worth 1 = .ok (.iconst 0, 1) := by decide +kernel
theorem dX5_worth_2 : decode cX5_worth 2 = .ok (.iconst 0, 1) := by decide +kernel
theorem dX5_worth_3 : decode cX5_worth 3 = .ok (.iconst 0, 1) := by decide +kernel
theorem dX5_worth_4 : decode cX5_worth 4 = .ok (.invokevirtual 202, 3) := by decide +kernel
theorem dX5_worth_7 : decode cX5_worth 7 = .ok (.ireturn, 1) := by decide +kernel
set_option maxRecDepth 20000 in
theorem ggX5_worthByTable_X5_leftOn : GoodIn wsX5_worthByTable wsX5_leftOn := goodIn_r _ [7, 8, 9, 10, 11, 12, 13, 14, 6, 15, 16, 17, 18, 19, 20, 21, 22, 23, 24, 25, 26, 27, 28, 29, 30, 31, 32, 33, 34, 76, 77, 78, 79, 80, 81, 82, 83, 84, 85, 86, 87, 88, 89, 90, 91, 92, 93, 94] (by decide +kernel) (by decide +kernel)
set_option maxRecDepth 20000 in
theorem gX5_worthByTable_X5_leftOn : GoodIn wsX5_worthByTable (wsV RX5 205 RX5 yX5_leftOn wsX5_leftOn) := goodIn_app (goodIn_of _ (by decide +kernel)) ggX5_worthByTable_X5_leftOn
set_option maxRecDepth 20000 in
theorem ggX5_worthByTable_X4_clear : GoodIn wsX5_worthByTable wsX4_clear := goodIn_r _ [38, 39, 40, 41, 42, 43, 95] (by decide +kernel) (by decide +kernel)
set_option maxRecDepth 20000 in
theorem gX5_worthByTable_X4_clear_n208 : GoodIn wsX5_worthByTable (wsX4_clear) := ggX5_worthByTable_X4_clear
set_option maxRecDepth 20000 in
theorem ggX5_worthByTable_X4_admit : GoodIn wsX5_worthByTable wsX4_admit := goodIn_r _ [46, 47, 48, 10, 49, 50, 51, 52, 53, 54, 55, 56, 9, 11, 57, 58, 59, 36, 60, 61, 62, 63, 64, 65, 66, 67, 68, 69, 70, 71, 72, 39, 96, 97, 98, 99, 100, 101, 102, 95] (by decide +kernel) (by decide +kernel)
set_option maxRecDepth 20000 in
theorem gX5_worthByTable_X4_admit_n211 : GoodIn wsX5_worthByTable (wsX4_admit) := ggX5_worthByTable_X4_admit
set_option maxRecDepth 20000 in
theorem ggX5_worthByTable_X4_valueOf : GoodIn wsX5_worthByTable wsX4_valueOf := goodIn_r _ [75, 39, 66, 67, 36, 68, 95] (by decide +kernel) (by decide +kernel)
set_option maxRecDepth 20000 in
theorem gX5_worthByTable_X4_valueOf_n215 : GoodIn wsX5_worthByTable (wsX4_valueOf) := ggX5_worthByTable_X4_valueOf
theorem dX5_worthByTable_0 : decode cX5_worthByTable 0 = .ok (.aload_n 0, 1) := by decide +kernel
theorem dX5_worthByTable_1 : decode cX5_worthByTable 1 = .ok (.iconst 0, 1) := by decide +kernel
theorem dX5_worthByTable_2 : decode cX5_worthByTable 2 = .ok (.invokevirtual 205, 3) := by decide +kernel
theorem dX5_worthByTable_5 : decode cX5_worthByTable 5 = .ok (.istore_n 1, 1) := by decide +kernel
theorem dX5_worthByTable_6 : decode cX5_worthByTable 6 = .ok (.aload_n 0, 1) := by decide +kernel
theorem dX5_worthByTable_7 : decode cX5_worthByTable 7 = .ok (.iconst 1, 1) := by decide +kernel
theorem dX5_worthByTable_8 : decode cX5_worthByTable 8 = .ok (.invokevirtual 205, 3) := by decide +kernel
theorem dX5_worthByTable_11 : decode cX5_worthByTable 11 = .ok (.istore_n 2, 1) := by decide +kernel
theorem dX5_worthByTable_12 : decode cX5_worthByTable 12 = .ok (.aload_n 0, 1) := by decide +kernel
theorem dX5_worthByTable_13 : decode cX5_worthByTable 13 = .ok (.iconst 2, 1) := by decide +kernel
theorem dX5_worthByTable_14 : decode cX5_worthByTable 14 = .ok (.invokevirtual 205, 3) := by decide +kernel
theorem dX5_worthByTable_17 : decode cX5_worthByTable 17 = .ok (.istore_n 3, 1) := by decide +kernel
theorem dX5_worthByTable_18 : decode cX5_worthByTable 18 = .ok (.aload_n 0, 1) := by decide +kernel
theorem dX5_worthByTable_19 : decode cX5_worthByTable 19 = .ok (.getfield 38, 3) := by decide +kernel
theorem dX5_worthByTable_22 : decode cX5_worthByTable 22 = .ok (.invokevirtual 208, 3) := by decide +kernel
theorem dX5_worthByTable_25 : decode cX5_worthByTable 25 = .ok (.aload_n 0, 1) := by decide +kernel
theorem dX5_worthByTable_26 : decode cX5_worthByTable 26 = .ok (.getfield 15, 3) := by decide +kernel
theorem dX5_worthByTable_29 : decode cX5_worthByTable 29 = .ok (.astore 4, 2) := by decide +kernel
theorem dX5_worthByTable_31 : decode cX5_worthByTable 31 = .ok (.aload 4, 2) := by decide +kernel
theorem dX5_worthByTable_33 : decode cX5_worthByTable 33 = .ok (.arraylength, 1) := by decide +kernel
theorem dX5_worthByTable_34 : decode cX5_worthByTable 34 = .ok (.istore 5, 2) := by decide +kernel
theorem dX5_worthByTable_36 : decode cX5_worthByTable 36 = .ok (.iconst 0, 1) := by decide +kernel
theorem dX5_worthByTable_37 : decode cX5_worthByTable 37 = .ok (.istore 6, 2) := by decide +kernel
theorem dX5_worthByTable_39 : decode cX5_worthByTable 39 = .ok (.iload 6, 2) := by decide +kernel
theorem dX5_worthByTable_41 : decode cX5_worthByTable 41 = .ok (.iload 5, 2) := by decide +kernel
theorem dX5_worthByTable_43 : decode cX5_worthByTable 43 = .ok (.if_icmp .ge 33, 3) := by decide +kernel
theorem dX5_worthByTable_46 : decode cX5_worthByTable 46 = .ok (.aload 4, 2) := by decide +kernel
theorem dX5_worthByTable_48 : decode cX5_worthByTable 48 = .ok (.iload 6, 2) := by decide +kernel
theorem dX5_worthByTable_50 : decode cX5_worthByTable 50 = .ok (.aaload, 1) := by decide +kernel
theorem dX5_worthByTable_51 : decode cX5_worthByTable 51 = .ok (.astore 7, 2) := by decide +kernel
theorem dX5_worthByTable_53 : decode cX5_worthByTable 53 = .ok (.aload 7, 2) := by decide +kernel
theorem dX5_worthByTable_55 : decode cX5_worthByTable 55 = .ok (.ifnull 15, 3) := by decide +kernel
theorem dX5_worthByTable_58 : decode cX5_worthByTable 58 = .ok (.aload_n 0, 1) := by decide +kernel
theorem dX5_worthByTable_59 : decode cX5_worthByTable 59 = .ok (.getfield 38, 3) := by decide +kernel
theorem dX5_worthByTable_62 : decode cX5_worthByTable 62 = .ok (.aload 7, 2) := by decide +kernel
theorem dX5_worthByTable_64 : decode cX5_worthByTable 64 = .ok (.iload_n 1, 1) := by decide +kernel
theorem dX5_worthByTable_65 : decode cX5_worthByTable 65 = .ok (.iload_n 2, 1) := by decide +kernel
theorem dX5_worthByTable_66 : decode cX5_worthByTable 66 = .ok (.iload_n 3, 1) := by decide +kernel
theorem dX5_worthByTable_67 : decode cX5_worthByTable 67 = .ok (.invokevirtual 211, 3) := by decide +kernel
theorem dX5_worthByTable_70 : decode cX5_worthByTable 70 = .ok (.iinc 6 1, 3) := by decide +kernel
theorem dX5_worthByTable_73 : decode cX5_worthByTable 73 = .ok (.goto (-34), 3) := by decide +kernel
theorem dX5_worthByTable_76 : decode cX5_worthByTable 76 = .ok (.aload_n 0, 1) := by decide +kernel
theorem dX5_worthByTable_77 : decode cX5_worthByTable 77 = .ok (.getfield 38, 3) := by decide +kernel
theorem dX5_worthByTable_80 : decode cX5_worthByTable 80 = .ok (.iload_n 1, 1) := by decide +kernel
theorem dX5_worthByTable_81 : decode cX5_worthByTable 81 = .ok (.iload_n 2, 1) := by decide +kernel
theorem dX5_worthByTable_82 : decode cX5_worthByTable 82 = .ok (.iload_n 3, 1) := by decide +kernel
theorem dX5_worthByTable_83 : decode cX5_worthByTable 83 = .ok (.invokevirtual 215, 3) := by decide +kernel
theorem dX5_worthByTable_86 : decode cX5_worthByTable 86 = .ok (.ireturn, 1) := by decide +kernel
set_option maxRecDepth 20000 in
theorem ggX5_bid_X5_isLeg : GoodIn wsX5_bid wsX5_isLeg := goodIn_r _ [6, 7, 8, 5, 9] (by decide +kernel) (by decide +kernel)
set_option maxRecDepth 20000 in
theorem gX5_bid_X5_isLeg : GoodIn wsX5_bid (va_wsS RX5 83 yX5_isLeg wsX5_isLeg) := goodIn_app (goodIn_of _ (by decide +kernel)) ggX5_bid_X5_isLeg
set_option maxRecDepth 20000 in
theorem ggX5_bid_X5_bidsOver : GoodIn wsX5_bid wsX5_bidsOver := goodIn_r _ [13, 14, 15, 16, 5, 17, 18, 19, 20, 21, 22, 23, 24, 25, 26, 27, 28, 29, 30, 31, 32, 33, 34, 35, 36, 37, 38, 39, 40, 41, 42, 43, 44, 45, 46, 47, 48, 49, 50, 51, 52, 53, 54, 55, 56, 57, 58, 59, 60, 61, 62, 63, 64, 65, 66, 67, 68, 69, 70, 71, 72, 73, 74, 75, 76, 77, 78, 79, 80, 7, 8, 9, 81, 82, 83, 84, 85, 86, 87, 88, 89, 90, 91, 92, 93, 94, 95, 96, 97, 98, 99, 100, 101, 102, 103, 104, 105, 106, 107, 108, 109, 110, 111, 112, 113, 114, 115, 116, 117, 118, 119, 120, 121, 122, 123, 124, 125, 126, 127, 128, 129, 130, 131, 132] (by decide +kernel) (by decide +kernel)
set_option maxRecDepth 20000 in
theorem gX5_bid_X5_bidsOver : GoodIn wsX5_bid (wsV RX5 147 RX5 yX5_bidsOver wsX5_bidsOver) := goodIn_app (goodIn_of _ (by decide +kernel)) ggX5_bid_X5_bidsOver
theorem dX5_bid_0 : decode cX5_bid 0 = .ok (.iload_n 1, 1) := by decide +kernel
theorem dX5_bid_1 : decode cX5_bid 1 = .ok (.invokestatic 83, 3) := by decide +kernel
theorem dX5_bid_4 : decode cX5_bid 4 = .ok (.ifCond .ne 13, 3) := by decide +kernel
theorem dX5_bid_7 : decode cX5_bid 7 = .ok (.new 87, 3) := by decide +kernel
theorem dX5_bid_10 : decode cX5_bid 10 = .ok (.dup, 1) := by decide +kernel
theorem dX5_bid_11 : decode cX5_bid 11 = .ok (.ldc 89, 2) := by decide +kernel
theorem dX5_bid_13 : decode cX5_bid 13 = .ok (.invokespecial 91, 3) := by decide +kernel
theorem dX5_bid_16 : decode cX5_bid 16 = .ok (.athrow, 1) := by decide +kernel
theorem dX5_bid_17 : decode cX5_bid 17 = .ok (.aload_n 0, 1) := by decide +kernel
theorem dX5_bid_18 : decode cX5_bid 18 = .ok (.iload_n 1, 1) := by decide +kernel
theorem dX5_bid_19 : decode cX5_bid 19 = .ok (.iload_n 1, 1) := by decide +kernel
theorem dX5_bid_20 : decode cX5_bid 20 = .ok (.invokevirtual 147, 3) := by decide +kernel
