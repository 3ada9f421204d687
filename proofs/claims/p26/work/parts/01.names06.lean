theorem wsL_law_in : ∀ w ∈ wsL_law, w ∈ lw_tbl := fun w h => (List.mem_append.mp h).elim (fun h => (List.mem_append.mp h).elim (fun h => (List.mem_append.mp h).elim (fun h => wsL_law_in0 w h) (fun h => wsL_law_x0 w h)) (fun h => wsL_law_x1 w h)) (fun h => wsL_law_x2 w h)
theorem inlX0 : ∀ w ∈ wsX00, w ∈ wsL_law := fun _ h => List.mem_append_left _ (List.mem_append_left _ (List.mem_append_left _ (List.mem_append_left _ (List.mem_append_left _ (List.mem_append_right _ h)))))
theorem inX0 : ∀ w ∈ wsX00, w ∈ lw_tbl := fun w h => wsL_law_in w (inlX0 w h)
theorem inlX1 : ∀ w ∈ wsX10, w ∈ wsL_law := fun _ h => List.mem_append_left _ (List.mem_append_left _ (List.mem_append_left _ (List.mem_append_left _ (List.mem_append_left _ (List.mem_append_left _ (List.mem_append_left _ (List.mem_append_left _ (List.mem_append_right _ h))))))))
theorem inX1 : ∀ w ∈ wsX10, w ∈ lw_tbl := fun w h => wsL_law_in w (inlX1 w h)
theorem inlX2 : ∀ w ∈ wsX20, w ∈ wsL_law := fun _ h => List.mem_append_left _ (List.mem_append_left _ (List.mem_append_left _ (List.mem_append_left _ (List.mem_append_right _ h))))
theorem inX2 : ∀ w ∈ wsX20, w ∈ lw_tbl := fun w h => wsL_law_in w (inlX2 w h)
theorem inlX3 : ∀ w ∈ wsX30, w ∈ wsL_law := fun _ h => List.mem_append_left _ (List.mem_append_left _ (List.mem_append_left _ (List.mem_append_left _ (List.mem_append_left _ (List.mem_append_left _ (List.mem_append_right _ h))))))
theorem inX3 : ∀ w ∈ wsX30, w ∈ lw_tbl := fun w h => wsL_law_in w (inlX3 w h)
theorem inlX4 : ∀ w ∈ wsX40, w ∈ wsL_law := fun _ h => List.mem_append_left _ (List.mem_append_left _ (List.mem_append_left _ (List.mem_append_left _ (List.mem_append_left _ (List.mem_append_left _ (List.mem_append_left _ (List.mem_append_right _ h)))))))
theorem inX4 : ∀ w ∈ wsX40, w ∈ lw_tbl := fun w h => wsL_law_in w (inlX4 w h)
theorem inlX5 : ∀ w ∈ wsX50, w ∈ wsL_law := fun _ h => List.mem_append_left _ (List.mem_append_left _ (List.mem_append_left _ (List.mem_append_left _ (List.mem_append_left _ (List.mem_append_left _ (List.mem_append_left _ (List.mem_append_left _ (List.mem_append_left _ (List.mem_append_right _ h)))))))))
theorem inX5 : ∀ w ∈ wsX50, w ∈ lw_tbl := fun w h => wsL_law_in w (inlX5 w h)
theorem inX6 : ∀ w ∈ wsX60, w ∈ lw_tbl := by decide +kernel
theorem inJx145de : ∀ w ∈ wsJx145de0, w ∈ lw_tbl := by decide +kernel
theorem inJ9 : ∀ w ∈ wsJ90, w ∈ lw_tbl := by decide +kernel
theorem inJ0 : ∀ w ∈ wsJ00, w ∈ lw_tbl := by decide +kernel
theorem inJ7 : ∀ w ∈ wsJ70, w ∈ lw_tbl := by decide +kernel
theorem dX0_init_0 : decode cX0_init 0 = .ok (.aload_n 0, 1) := by decide +kernel
theorem dX0_init_1 : decode cX0_init 1 = .ok (.invokespecial 1, 3) := by decide +kernel
theorem dX0_init_4 : decode cX0_init 4 = .ok (.aload_n 0, 1) := by decide +kernel
theorem dX0_init_5 : decode cX0_init 5 = .ok (.iconst 0, 1) := by decide +kernel
theorem dX0_init_6 : decode cX0_init 6 = .ok (.putfield 7, 3) := by decide +kernel
theorem dX0_init_9 : decode cX0_init 9 = .ok (.aload_n 0, 1) := by decide +kernel
theorem dX0_init_10 : decode cX0_init 10 = .ok (.iload_n 1, 1) := by decide +kernel
theorem dX0_init_11 : decode cX0_init 11 = .ok (.putfield 13, 3) := by decide +kernel
theorem dX0_init_14 : decode cX0_init 14 = .ok (.aload_n 0, 1) := by decide +kernel
theorem dX0_init_15 : decode cX0_init 15 = .ok (.iload_n 2, 1) := by decide +kernel
theorem dX0_init_16 : decode cX0_init 16 = .ok (.putfield 17, 3) := by decide +kernel
theorem dX0_init_19 : decode cX0_init 19 = .ok (.aload_n 0, 1) := by decide +kernel
theorem dX0_init_20 : decode cX0_init 20 = .ok (.iload_n 3, 1) := by decide +kernel
theorem dX0_init_21 : decode cX0_init 21 = .ok (.putfield 20, 3) := by decide +kernel
theorem dX0_init_24 : decode cX0_init 24 = .ok (.aload_n 0, 1) := by decide +kernel
theorem dX0_init_25 : decode cX0_init 25 = .ok (.iload 4, 2) := by decide +kernel
theorem dX0_init_27 : decode cX0_init 27 = .ok (.putfield 23, 3) := by decide +kernel
theorem dX0_init_30 : decode cX0_init 30 = .ok (.return_, 1) := by decide +kernel
theorem dX0_seatsOn_0 : decode cX0_seatsOn 0 = .ok (.aload_n 0, 1) := by decide +kernel
theorem dX0_seatsOn_1 : decode cX0_seatsOn 1 = .ok (.getfield 7, 3) := by decide +kernel
theorem dX0_seatsOn_4 : decode cX0_seatsOn 4 = .ok (.ifCond .ne 26, 3) := by decide +kernel
theorem dX0_seatsOn_7 : decode cX0_seatsOn 7 = .ok (.iload_n 1, 1) := by decide +kernel
theorem dX0_seatsOn_8 : decode cX0_seatsOn 8 = .ok (.aload_n 0, 1) := by decide +kernel
theorem dX0_seatsOn_9 : decode cX0_seatsOn 9 = .ok (.getfield 13, 3) := by decide +kernel
theorem dX0_seatsOn_12 : decode cX0_seatsOn 12 = .ok (.if_icmp .lt 18, 3) := by decide +kernel
theorem dX0_seatsOn_15 : decode cX0_seatsOn 15 = .ok (.iload_n 1, 1) := by decide +kernel
theorem dX0_seatsOn_16 : decode cX0_seatsOn 16 = .ok (.aload_n 0, 1) := by decide +kernel
theorem dX0_seatsOn_17 : decode cX0_seatsOn 17 = .ok (.getfield 17, 3) := by decide +kernel
theorem dX0_seatsOn_20 : decode cX0_seatsOn 20 = .ok (.if_icmp .gt 10, 3) := by decide +kernel
theorem dX0_seatsOn_23 : decode cX0_seatsOn 23 = .ok (.aload_n 0, 1) := by decide +kernel
theorem dX0_seatsOn_24 : decode cX0_seatsOn 24 = .ok (.getfield 20, 3) := by decide +kernel
theorem dX0_seatsOn_27 : decode cX0_seatsOn 27 = .ok (.goto 4, 3) := by decide +kernel
theorem dX0_seatsOn_30 : decode cX0_seatsOn 30 = .ok (.iconst 0, 1) := by decide +kernel
theorem dX0_seatsOn_31 : decode cX0_seatsOn 31 = .ok (.ireturn, 1) := by decide +kernel
set_option maxRecDepth 20000 in
theorem ggX1_init_X3_init : GoodIn wsX1_init wsX3_init := goodIn_r _ [14, 15, 2, 3, 16, 17, 18, 19, 20] (by decide +kernel) (by decide +kernel)
set_option maxRecDepth 20000 in
theorem gX1_init_X3_init_n9 : GoodIn wsX1_init (wsX3_init) := ggX1_init_X3_init
theorem dX1_init_0 : decode cX1_init 0 = .ok (.aload_n 0, 1) := by decide +kernel
theorem dX1_init_1 : decode cX1_init 1 = .ok (.invokespecial 1, 3) := by decide +kernel
theorem dX1_init_4 : decode cX1_init 4 = .ok (.aload_n 0, 1) := by decide +kernel
theorem dX1_init_5 : decode cX1_init 5 = .ok (.new 7, 3) := by decide +kernel
theorem dX1_init_8 : decode cX1_init 8 = .ok (.dup, 1) := by decide +kernel
theorem dX1_init_9 : decode cX1_init 9 = .ok (.invokespecial 9, 3) := by decide +kernel
theorem dX1_init_12 : decode cX1_init 12 = .ok (.putfield 10, 3) := by decide +kernel
theorem dX1_init_15 : decode cX1_init 15 = .ok (.aload_n 0, 1) := by decide +kernel
theorem dX1_init_16 : decode cX1_init 16 = .ok (.new 7, 3) := by decide +kernel
theorem dX1_init_19 : decode cX1_init 19 = .ok (.dup, 1) := by decide +kernel
theorem dX1_init_20 : decode cX1_init 20 = .ok (.invokespecial 9, 3) := by decide +kernel
theorem dX1_init_23 : decode cX1_init 23 = .ok (.putfield 16, 3) := by decide +kernel
theorem dX1_init_26 : decode cX1_init 26 = .ok (.aload_n 0, 1) := by decide +kernel
theorem dX1_init_27 : decode cX1_init 27 = .ok (.new 7, 3) := by decide +kernel
theorem dX1_init_30 : decode cX1_init 30 = .ok (.dup, 1) := by decide +kernel
theorem dX1_init_31 : decode cX1_init 31 = .ok (.invokespecial 9, 3) := by decide +kernel
theorem dX1_init_34 : decode cX1_init 34 = .ok (.putfield 19, 3) := by decide +kernel
theorem dX1_init_37 : decode cX1_init 37 = .ok (.aload_n 0, 1) := by decide +kernel
theorem dX1_init_38 : decode cX1_init 38 = .ok (.new 7, 3) := by decide +kernel
theorem dX1_init_41 : decode cX1_init 41 = .ok (.dup, 1) := by decide +kernel
theorem dX1_init_42 : decode cX1_init 42 = .ok (.invokespecial 9, 3) := by decide +kernel
theorem dX1_init_45 : decode cX1_init 45 = .ok (.putfield 22, 3) := by decide +kernel
theorem dX1_init_48 : decode cX1_init 48 = .ok (.aload_n 0, 1) := by decide +kernel
theorem dX1_init_49 : decode cX1_init 49 = .ok (.new 7, 3) := by decide +kernel
theorem dX1_init_52 : decode cX1_init 52 = .ok (.dup, 1) := by decide +kernel
theorem dX1_init_53 : decode cX1_init 53 = .ok (.invokespecial 9, 3) := by decide +kernel
theorem dX1_init_56 : decode cX1_init 56 = .ok (.putfield 25, 3) := by decide +kernel
theorem dX1_init_59 : decode cX1_init 59 = .ok (.aload_n 0, 1) := by decide +kernel
theorem dX1_init_60 : decode cX1_init 60 = .ok (.new 7, 3) := by decide +kernel
theorem dX1_init_63 : decode cX1_init 63 = .ok (.dup, 1) := by decide +kernel
theorem dX1_init_64 : decode cX1_init 64 = .ok (.invokespecial 9, 3) := by decide +kernel
theorem dX1_init_67 : decode cX1_init 67 = .ok (.putfield 28, 3) := by decide +kernel
theorem dX1_init_70 : decode cX1_init 70 = .ok (.return_, 1) := by decide +kernel
theorem dX1_clear_0 : decode cX1_clear 0 = .ok (.aload_n 0, 1) := by decide +kernel
theorem dX1_clear_1 : decode cX1_clear 1 = .ok (.getfield 10, 3) := by decide +kernel
theorem dX1_clear_4 : decode cX1_clear 4 = .ok (.iconst 0, 1) := by decide +kernel
theorem dX1_clear_5 : decode cX1_clear 5 = .ok (.putfield 31, 3) := by decide +kernel
theorem dX1_clear_8 : decode cX1_clear 8 = .ok (.aload_n 0, 1) := by decide +kernel
theorem dX1_clear_9 : decode cX1_clear 9 = .ok (.getfield 16, 3) := by decide +kernel
theorem dX1_clear_12 : decode cX1_clear 12 = .ok (.iconst 0, 1) := by decide +kernel
theorem dX1_clear_13 : decode cX1_clear 13 = .ok (.putfield 31, 3) := by decide +kernel
theorem dX1_clear_16 : decode cX1_clear 16 = .ok (.aload_n 0, 1) := by decide +kernel
theorem dX1_clear_17 : decode cX1_clear 17 = .ok (.getfield 19, 3) := by decide +kernel
theorem dX1_clear_20 : decode cX1_clear 20 = .ok (.iconst 0, 1) := by decide +kernel
theorem dX1_clear_21 : decode cX1_clear 21 = .ok (.putfield 31, 3) := by decide +kernel
theorem dX1_clear_24 : decode cX1_clear 24 = .ok (.aload_n 0, 1) := by decide +kernel
theorem dX1_clear_25 : decode cX1_clear 25 = .ok (.getfield 22, 3) := by decide +kernel
theorem dX1_clear_28 : decode cX1_clear 28 = .ok (.iconst 0, 1) := by decide +kernel
theorem dX1_clear_29 : decode cX1_clear 29 = .ok (.putfield 31, 3) := by decide +kernel
theorem dX1_clear_32 : decode cX1_clear 32 = .ok (.aload_n 0, 1) := by decide +kernel
theorem dX1_clear_33 : decode cX1_clear 33 = .ok (.getfield 25, 3) := by decide +kernel
theorem dX1_clear_36 : decode cX1_clear 36 = .ok (.iconst 0, 1) := by decide +kernel
theorem dX1_clear_37 : decode cX1_clear 37 = .ok (.putfield 31, 3) := by decide +kernel
theorem dX1_clear_40 : decode cX1_clear 40 = .ok (.aload_n 0, 1) := by decide +kernel
theorem dX1_clear_41 : decode cX1_clear 41 = .ok (.getfield 28, 3) := by decide +kernel
theorem dX1_clear_44 : decode cX1_clear 44 = .ok (.iconst 0, 1) := by decide +kernel
theorem dX1_clear_45 : decode cX1_clear 45 = .ok (.putfield 31, 3) := by decide +kernel
theorem dX1_clear_48 : decode cX1_clear 48 = .ok (.return_, 1) := by decide +kernel
set_option maxRecDepth 20000 in
theorem ggX1_add_X1_queueOf : GoodIn wsX1_add wsX1_queueOf := goodIn_r _ [5, 6, 7, 8, 9, 10, 11, 35, 36, 37, 38, 39, 40] (by decide +kernel) (by decide +kernel)
set_option maxRecDepth 20000 in
theorem gX1_add_X1_queueOf : GoodIn wsX1_add (wsV RX1 43 RX1 yX1_queueOf wsX1_queueOf) := goodIn_app (goodIn_of _ (by decide +kernel)) ggX1_add_X1_queueOf
set_option maxRecDepth 20000 in
theorem ggX1_add_X2_toCome : GoodIn wsX1_add wsX2_toCome := goodIn_r _ [15, 16, 17, 18, 19, 20, 21, 28, 29, 30, 31, 32, 33, 34] (by decide +kernel) (by decide +kernel)
set_option maxRecDepth 20000 in
theorem gX1_add_X2_toCome_n50 : GoodIn wsX1_add (wsX2_toCome) := ggX1_add_X2_toCome
set_option maxRecDepth 20000 in
theorem ggX1_add_X3_add : GoodIn wsX1_add wsX3_add := goodIn_r _ [25, 26, 27, 41, 42] (by decide +kernel) (by decide +kernel)
set_option maxRecDepth 20000 in
theorem gX1_add_X3_add_n54 : GoodIn wsX1_add (wsX3_add) := ggX1_add_X3_add
theorem dX1_add_0 : decode cX1_add 0 = .ok (.aload_n 0, 1) := by decide +kernel
theorem dX1_add_1 : decode cX1_add 1 = .ok (.aload_n 1, 1) := by decide +kernel
theorem dX1_add_2 : decode cX1_add 2 = .ok (.getfield 35, 3) := by decide +kernel
theorem dX1_add_5 : decode cX1_add 5 = .ok (.aload_n 1, 1) := by decide +kernel
theorem dX1_add_6 : decode cX1_add 6 = .ok (.getfield 40, 3) := by decide +kernel
theorem dX1_add_9 : decode cX1_add 9 = .ok (.invokevirtual 43, 3) := by decide +kernel
theorem dX1_add_12 : decode cX1_add 12 = .ok (.aload_n 1, 1) := by decide +kernel
theorem dX1_add_13 : decode cX1_add 13 = .ok (.getfield 47, 3) := by decide +kernel
theorem dX1_add_16 : decode cX1_add 16 = .ok (.aload_n 1, 1) := by decide +kernel
theorem dX1_add_17 : decode cX1_add 17 = .ok (.invokevirtual 50, 3) := by decide +kernel
theorem dX1_add_20 : decode cX1_add 20 = .ok (.invokevirtual 54, 3) := by decide +kernel
theorem dX1_add_23 : decode cX1_add 23 = .ok (.return_, 1) := by decide +kernel
theorem dX1_queueOf_0 : decode cX1_queueOf 0 = .ok (.iload_n 1, 1) := by decide +kernel
theorem dX1_queueOf_1 : decode cX1_queueOf 1 = .ok (.ifCond .ne 31, 3) := by decide +kernel
theorem dX1_queueOf_4 : decode cX1_queueOf 4 = .ok (.iload_n 2, 1) := by decide +kernel
theorem dX1_queueOf_5 : decode cX1_queueOf 5 = .ok (.ifCond .ne 10, 3) := by decide +kernel
theorem dX1_queueOf_8 : decode cX1_queueOf 8 = .ok (.aload_n 0, 1) := by decide +kernel
theorem dX1_queueOf_9 : decode cX1_queueOf 9 = .ok (.getfield 10, 3) := by decide +kernel
theorem dX1_queueOf_12 : decode cX1_queueOf 12 = .ok (.goto 19, 3) := by decide +kernel
theorem dX1_queueOf_15 : decode cX1_queueOf 15 = .ok (.iload_n 2, 1) := by decide +kernel
theorem dX1_queueOf_16 : decode cX1_queueOf 16 = .ok (.iconst 1, 1) := by decide +kernel
theorem dX1_queueOf_17 : decode cX1_queueOf 17 = .ok (.if_icmp .ne 10, 3) := by decide +kernel
theorem dX1_queueOf_20 : decode cX1_queueOf 20 = .ok (.aload_n 0, 1) := by decide +kernel
theorem dX1_queueOf_21 : decode cX1_queueOf 21 = .ok (.getfield 22, 3) := by decide +kernel
theorem dX1_queueOf_24 : decode cX1_queueOf 24 = .ok (.goto 7, 3) := by decide +kernel
theorem dX1_queueOf_27 : decode cX1_queueOf 27 = .ok (.aload_n 0, 1) := by decide +kernel
theorem dX1_queueOf_28 : decode cX1_queueOf 28 = .ok (.getfield 28, 3) := by decide +kernel
theorem dX1_queueOf_31 : decode cX1_queueOf 31 = .ok (.areturn, 1) := by decide +kernel
theorem dX1_queueOf_32 : decode cX1_queueOf 32 = .ok (.iload_n 1, 1) := by decide +kernel
theorem dX1_queueOf_33 : decode cX1_queueOf 33 = .ok (.iconst 1, 1) := by decide +kernel
theorem dX1_queueOf_34 : decode cX1_queueOf 34 = .ok (.if_icmp .ne 20, 3) := by decide +kernel
theorem dX1_queueOf_37 : decode cX1_queueOf 37 = .ok (.iload_n 2, 1) := by decide +kernel
theorem dX1_queueOf_38 : decode cX1_queueOf 38 = .ok (.iconst 1, 1) := by decide +kernel
theorem dX1_queueOf_39 : decode cX1_queueOf 39 = .ok (.if_icmp .ne 10, 3) := by decide +kernel
theorem dX1_queueOf_42 : decode cX1_queueOf 42 = .ok (.aload_n 0, 1) := by decide +kernel
theorem dX1_queueOf_43 : decode cX1_queueOf 43 = .ok (.getfield 16, 3) := by decide +kernel
theorem dX1_queueOf_46 : decode cX1_queueOf 46 = .ok (.goto 7, 3) := by decide +kernel
theorem dX1_queueOf_49 : decode cX1_queueOf 49 = .ok (.aload_n 0, 1) := by decide +kernel
theorem dX1_queueOf_50 : decode cX1_queueOf 50 = .ok (.getfield 25, 3) := by decide +kernel
theorem dX1_queueOf_53 : decode cX1_queueOf 53 = .ok (.areturn, 1) := by decide +kernel
theorem dX1_queueOf_54 : decode cX1_queueOf 54 = .ok (.aload_n 0, 1) := by decide +kernel
theorem dX1_queueOf_55 : decode cX1_queueOf 55 = .ok (.getfield 19, 3) := by decide +kernel
theorem dX1_queueOf_58 : decode cX1_queueOf 58 = .ok (.areturn, 1) := by decide +kernel
set_option maxRecDepth 20000 in
theorem ggX1_mostFor_X3_mostFor : GoodIn wsX1_mostFor wsX3_mostFor := goodIn_r _ [12, 13, 14, 35, 36] (by decide +kernel) (by decide +kernel)
set_option maxRecDepth 20000 in
theorem gX1_mostFor_X3_mostFor_n64 : GoodIn wsX1_mostFor (wsX3_mostFor) := ggX1_mostFor_X3_mostFor
set_option maxRecDepth 20000 in
theorem ggX1_mostFor_X1_mostOfShorter : GoodIn wsX1_mostFor wsX1_mostOfShorter := goodIn_r _ [19, 20, 2, 3, 4, 5, 21, 6, 7, 8, 9, 10, 11, 12, 13, 14, 22, 23, 24, 18, 25, 26, 27, 28, 29, 30, 31, 32, 33, 34, 35, 36] (by decide +kernel) (by decide +kernel)
set_option maxRecDepth 20000 in
theorem gX1_mostFor_X1_mostOfShorter : GoodIn wsX1_mostFor (wsV RX1 68 RX1 yX1_mostOfShorter wsX1_mostOfShorter) := goodIn_app (goodIn_of _ (by decide +kernel)) ggX1_mostFor_X1_mostOfShorter
theorem dX1_mostFor_0 : decode cX1_mostFor 0 = .ok (.iconst 0, 1) := by decide +kernel
theorem dX1_mostFor_1 : decode cX1_mostFor 1 = .ok (.istore 4, 2) := by decide +kernel
theorem dX1_mostFor_3 : decode cX1_mostFor 3 = .ok (.aload_n 0, 1) := by decide +kernel
theorem dX1_mostFor_4 : decode cX1_mostFor 4 = .ok (.getfield 28, 3) := by decide +kernel
theorem dX1_mostFor_7 : decode cX1_mostFor 7 = .ok (.getfield 31, 3) := by decide +kernel
theorem dX1_mostFor_10 : decode cX1_mostFor 10 = .ok (.iload_n 1, 1) := by decide +kernel
theorem dX1_mostFor_11 : decode cX1_mostFor 11 = .ok (.iload_n 2, 1) := by decide +kernel
theorem dX1_mostFor_12 : decode cX1_mostFor 12 = .ok (.iload_n 3, 1) := by decide +kernel
theorem dX1_mostFor_13 : decode cX1_mostFor 13 = .ok (.invokestatic 58, 3) := by decide +kernel
theorem dX1_mostFor_16 : decode cX1_mostFor 16 = .ok (.invokestatic 58, 3) := by decide +kernel
theorem dX1_mostFor_19 : decode cX1_mostFor 19 = .ok (.invokestatic 58, 3) := by decide +kernel
theorem dX1_mostFor_22 : decode cX1_mostFor 22 = .ok (.istore 5, 2) := by decide +kernel
theorem dX1_mostFor_24 : decode cX1_mostFor 24 = .ok (.iconst 0, 1) := by decide +kernel
theorem dX1_mostFor_25 : decode cX1_mostFor 25 = .ok (.istore 6, 2) := by decide +kernel
theorem dX1_mostFor_27 : decode cX1_mostFor 27 = .ok (.iload 6, 2) := by decide +kernel
theorem dX1_mostFor_29 : decode cX1_mostFor 29 = .ok (.iload 5, 2) := by decide +kernel
theorem dX1_mostFor_31 : decode cX1_mostFor 31 = .ok (.if_icmp .gt 42, 3) := by decide +kernel
theorem dX1_mostFor_34 : decode cX1_mostFor 34 = .ok (.iload 4, 2) := by decide +kernel
theorem dX1_mostFor_36 : decode cX1_mostFor 36 = .ok (.aload_n 0, 1) := by decide +kernel
theorem dX1_mostFor_37 : decode cX1_mostFor 37 = .ok (.getfield 28, 3) := by decide +kernel
theorem dX1_mostFor_40 : decode cX1_mostFor 40 = .ok (.iload 6, 2) := by decide +kernel
theorem dX1_mostFor_42 : decode cX1_mostFor 42 = .ok (.invokevirtual 64, 3) := by decide +kernel
theorem dX1_mostFor_45 : decode cX1_mostFor 45 = .ok (.aload_n 0, 1) := by decide +kernel
theorem dX1_mostFor_46 : decode cX1_mostFor 46 = .ok (.iload_n 1, 1) := by decide +kernel
theorem dX1_mostFor_47 : decode cX1_mostFor 47 = .ok (.iload 6, 2) := by decide +kernel
theorem dX1_mostFor_49 : decode cX1_mostFor 49 = .ok (.isub, 1) := by decide +kernel
theorem dX1_mostFor_50 : decode cX1_mostFor 50 = .ok (.iload_n 2, 1) := by decide +kernel
theorem dX1_mostFor_51 : decode cX1_mostFor 51 = .ok (.iload 6, 2) := by decide +kernel
theorem dX1_mostFor_53 : decode cX1_mostFor 53 = .ok (.isub, 1) := by decide +kernel
theorem dX1_mostFor_54 : decode cX1_mostFor 54 = .ok (.iload_n 3, 1) := by decide +kernel
theorem dX1_mostFor_55 : decode cX1_mostFor 55 = .ok (.iload 6, 2) := by decide +kernel
theorem dX1_mostFor_57 : decode cX1_mostFor 57 = .ok (.isub, 1) := by decide +kernel
theorem dX1_mostFor_58 : decode cX1_mostFor 58 = .ok (.invokevirtual 68, 3) := by decide +kernel
theorem dX1_mostFor_61 : decode cX1_mostFor 61 = .ok (.iadd, 1) := by decide +kernel
theorem dX1_mostFor_62 : decode cX1_mostFor 62 = .ok (.invokestatic 72, 3) := by decide +kernel
theorem dX1_mostFor_65 : decode cX1_mostFor 65 = .ok (.istore 4, 2) := by decide +kernel
theorem dX1_mostFor_67 : decode cX1_mostFor 67 = .ok (.iinc 6 1, 3) := by decide +kernel
theorem dX1_mostFor_70 : decode cX1_mostFor 70 = .ok (.goto (-43), 3) := by decide +kernel
theorem dX1_mostFor_73 : decode cX1_mostFor 73 = .ok (.iload 4, 2) := by decide +kernel
theorem dX1_mostFor_75 : decode cX1_mostFor 75 = .ok (.ireturn, 1) := by decide +kernel
set_option maxRecDepth 20000 in
theorem ggX1_mostOfShorter_X3_mostFor : GoodIn wsX1_mostOfShorter wsX3_mostFor := goodIn_r _ [13, 14, 15, 30, 31] (by decide +kernel) (by decide +kernel)
set_option maxRecDepth 20000 in
theorem gX1_mostOfShorter_X3_mostFor_n64 : GoodIn wsX1_mostOfShorter (wsX3_mostFor) := ggX1_mostOfShorter_X3_mostFor
set_option maxRecDepth 20000 in
theorem ggX1_mostOfShorter_X1_mostBehind : GoodIn wsX1_mostOfShorter wsX1_mostBehind := goodIn_r _ [20, 21, 2, 3, 4, 5, 22, 23, 7, 8, 9, 10, 11, 12, 13, 14, 15, 24, 25, 26, 27, 28, 29, 30, 31] (by decide +kernel) (by decide +kernel)
set_option maxRecDepth 20000 in
theorem gX1_mostOfShorter_X1_mostBehind : GoodIn wsX1_mostOfShorter (wsV RX1 75 RX1 yX1_mostBehind wsX1_mostBehind) := goodIn_app (goodIn_of _ (by decide +kernel)) ggX1_mostOfShorter_X1_mostBehind
theorem dX1_mostOfShorter_0 : decode cX1_mostOfShorter 0 = .ok (.iconst 0, 1) := by decide +kernel
theorem dX1_mostOfShorter_1 : decode cX1_mostOfShorter 1 = .ok (.istore 4, 2) := by decide +kernel
theorem dX1_mostOfShorter_3 : decode cX1_mostOfShorter 3 = .ok (.aload_n 0, 1) := by decide +kernel
theorem dX1_mostOfShorter_4 : decode cX1_mostOfShorter 4 = .ok (.getfield 22, 3) := by decide +kernel
theorem dX1_mostOfShorter_7 : decode cX1_mostOfShorter 7 = .ok (.getfield 31, 3) := by decide +kernel
theorem dX1_mostOfShorter_10 : decode cX1_mostOfShorter 10 = .ok (.iload_n 1, 1) := by decide +kernel
theorem dX1_mostOfShorter_11 : decode cX1_mostOfShorter 11 = .ok (.iload_n 2, 1) := by decide +kernel
theorem dX1_mostOfShorter_12 : decode cX1_mostOfShorter 12 = .ok (.invokestatic 58, 3) := by decide +kernel
theorem dX1_mostOfShorter_15 : decode cX1_mostOfShorter 15 = .ok (.invokestatic 58, 3) := by decide +kernel
theorem dX1_mostOfShorter_18 : decode cX1_mostOfShorter 18 = .ok (.istore 5, 2) := by decide +kernel
theorem dX1_mostOfShorter_20 : decode cX1_mostOfShorter 20 = .ok (.iconst 0, 1) := by decide +kernel
theorem dX1_mostOfShorter_21 : decode cX1_mostOfShorter 21 = .ok (.istore 6, 2) := by decide +kernel
theorem dX1_mostOfShorter_23 : decode cX1_mostOfShorter 23 = .ok (.iload 6, 2) := by decide +kernel
theorem dX1_mostOfShorter_25 : decode cX1_mostOfShorter 25 = .ok (.iload 5, 2) := by decide +kernel
theorem dX1_mostOfShorter_27 : decode cX1_mostOfShorter 27 = .ok (.if_icmp .gt 51, 3) := by decide +kernel
theorem dX1_mostOfShorter_30 : decode cX1_mostOfShorter 30 = .ok (.aload_n 0, 1) := by decide +kernel
theorem dX1_mostOfShorter_31 : decode cX1_mostOfShorter 31 = .ok (.getfield 22, 3) := by decide +kernel
theorem dX1_mostOfShorter_34 : decode cX1_mostOfShorter 34 = .ok (.iload 6, 2) := by decide +kernel
theorem dX1_mostOfShorter_36 : decode cX1_mostOfShorter 36 = .ok (.invokevirtual 64, 3) := by decide +kernel
theorem dX1_mostOfShorter_39 : decode cX1_mostOfShorter 39 = .ok (.aload_n 0, 1) := by decide +kernel
theorem dX1_mostOfShorter_40 : decode cX1_mostOfShorter 40 = .ok (.getfield 10, 3) := by decide +kernel
theorem dX1_mostOfShorter_43 : decode cX1_mostOfShorter 43 = .ok (.iload_n 1, 1) := by decide +kernel
theorem dX1_mostOfShorter_44 : decode cX1_mostOfShorter 44 = .ok (.iload 6, 2) := by decide +kernel
theorem dX1_mostOfShorter_46 : decode cX1_mostOfShorter 46 = .ok (.isub, 1) := by decide +kernel
theorem dX1_mostOfShorter_47 : decode cX1_mostOfShorter 47 = .ok (.invokevirtual 64, 3) := by decide +kernel
theorem dX1_mostOfShorter_50 : decode cX1_mostOfShorter 50 = .ok (.iadd, 1) := by decide +kernel
theorem dX1_mostOfShorter_51 : decode cX1_mostOfShorter 51 = .ok (.istore 7, 2) := by decide +kernel
theorem dX1_mostOfShorter_53 : decode cX1_mostOfShorter 53 = .ok (.iload 4, 2) := by decide +kernel
theorem dX1_mostOfShorter_55 : decode cX1_mostOfShorter 55 = .ok (.iload 7, 2) := by decide +kernel
theorem dX1_mostOfShorter_57 : decode cX1_mostOfShorter 57 = .ok (.aload_n 0, 1) := by decide +kernel
theorem dX1_mostOfShorter_58 : decode cX1_mostOfShorter 58 = .ok (.iload_n 2, 1) := by decide +kernel
theorem dX1_mostOfShorter_59 : decode cX1_mostOfShorter 59 = .ok (.iload 6, 2) := by decide +kernel
theorem dX1_mostOfShorter_61 : decode cX1_mostOfShorter 61 = .ok (.isub, 1) := by decide +kernel
theorem dX1_mostOfShorter_62 : decode cX1_mostOfShorter 62 = .ok (.iload_n 3, 1) := by decide +kernel
theorem dX1_mostOfShorter_63 : decode cX1_mostOfShorter 63 = .ok (.invokevirtual 75, 3) := by decide +kernel
theorem dX1_mostOfShorter_66 : decode cX1_mostOfShorter 66 = .ok (.iadd, 1) := by decide +kernel
theorem dX1_mostOfShorter_67 : decode cX1_mostOfShorter 67 = .ok (.invokestatic 72, 3) := by decide +kernel
theorem dX1_mostOfShorter_70 : decode cX1_mostOfShorter 70 = .ok (.istore 4, 2) := by decide +kernel
theorem dX1_mostOfShorter_72 : decode cX1_mostOfShorter 72 = .ok (.iinc 6 1, 3) := by decide +kernel
theorem dX1_mostOfShorter_75 : decode cX1_mostOfShorter 75 = .ok (.goto (-52), 3) := by decide +kernel
theorem dX1_mostOfShorter_78 : decode cX1_mostOfShorter 78 = .ok (.iload 4, 2) := by decide +kernel
theorem dX1_mostOfShorter_80 : decode cX1_mostOfShorter 80 = .ok (.ireturn, 1) := by decide +kernel
set_option maxRecDepth 20000 in
theorem ggX1_mostBehind_X3_mostFor : GoodIn wsX1_mostBehind wsX3_mostFor := goodIn_r _ [14, 15, 16, 23, 24] (by decide +kernel) (by decide +kernel)
set_option maxRecDepth 20000 in
theorem gX1_mostBehind_X3_mostFor_n64 : GoodIn wsX1_mostBehind (wsX3_mostFor) := ggX1_mostBehind_X3_mostFor
theorem dX1_mostBehind_0 : decode cX1_mostBehind 0 = .ok (.iconst 0, 1) := by decide +kernel
theorem dX1_mostBehind_1 : decode cX1_mostBehind 1 = .ok (.istore_n 3, 1) := by decide +kernel
theorem dX1_mostBehind_2 : decode cX1_mostBehind 2 = .ok (.aload_n 0, 1) := by decide +kernel
theorem dX1_mostBehind_3 : decode cX1_mostBehind 3 = .ok (.getfield 25, 3) := by decide +kernel
theorem dX1_mostBehind_6 : decode cX1_mostBehind 6 = .ok (.getfield 31, 3) := by decide +kernel
theorem dX1_mostBehind_9 : decode cX1_mostBehind 9 = .ok (.iload_n 1, 1) := by decide +kernel
theorem dX1_mostBehind_10 : decode cX1_mostBehind 10 = .ok (.iload_n 2, 1) := by decide +kernel
theorem dX1_mostBehind_11 : decode cX1_mostBehind 11 = .ok (.invokestatic 58, 3) := by decide +kernel
theorem dX1_mostBehind_14 : decode cX1_mostBehind 14 = .ok (.invokestatic 58, 3) := by decide +kernel
theorem dX1_mostBehind_17 : decode cX1_mostBehind 17 = .ok (.istore 4, 2) := by decide +kernel
theorem dX1_mostBehind_19 : decode cX1_mostBehind 19 = .ok (.iconst 0, 1) := by decide +kernel
theorem dX1_mostBehind_20 : decode cX1_mostBehind 20 = .ok (.istore 5, 2) := by decide +kernel
theorem dX1_mostBehind_22 : decode cX1_mostBehind 22 = .ok (.iload 5, 2) := by decide +kernel
theorem dX1_mostBehind_24 : decode cX1_mostBehind 24 = .ok (.iload 4, 2) := by decide +kernel
theorem dX1_mostBehind_26 : decode cX1_mostBehind 26 = .ok (.if_icmp .gt 47, 3) := by decide +kernel
theorem dX1_mostBehind_29 : decode cX1_mostBehind 29 = .ok (.iload_n 3, 1) := by decide +kernel
theorem dX1_mostBehind_30 : decode cX1_mostBehind 30 = .ok (.aload_n 0, 1) := by decide +kernel
theorem dX1_mostBehind_31 : decode cX1_mostBehind 31 = .ok (.getfield 25, 3) := by decide +kernel
theorem dX1_mostBehind_34 : decode cX1_mostBehind 34 = .ok (.iload 5, 2) := by decide +kernel
theorem dX1_mostBehind_36 : decode cX1_mostBehind 36 = .ok (.invokevirtual 64, 3) := by decide +kernel
theorem dX1_mostBehind_39 : decode cX1_mostBehind 39 = .ok (.aload_n 0, 1) := by decide +kernel
theorem dX1_mostBehind_40 : decode cX1_mostBehind 40 = .ok (.getfield 16, 3) := by decide +kernel
theorem dX1_mostBehind_43 : decode cX1_mostBehind 43 = .ok (.iload_n 1, 1) := by decide +kernel
theorem dX1_mostBehind_44 : decode cX1_mostBehind 44 = .ok (.iload 5, 2) := by decide +kernel
theorem dX1_mostBehind_46 : decode cX1_mostBehind 46 = .ok (.isub, 1) := by decide +kernel
theorem dX1_mostBehind_47 : decode cX1_mostBehind 47 = .ok (.invokevirtual 64, 3) := by decide +kernel
theorem dX1_mostBehind_50 : decode cX1_mostBehind 50 = .ok (.iadd, 1) := by decide +kernel
theorem dX1_mostBehind_51 : decode cX1_mostBehind 51 = .ok (.aload_n 0, 1) := by decide +kernel
theorem dX1_mostBehind_52 : decode cX1_mostBehind 52 = .ok (.getfield 19, 3) := by decide +kernel
theorem dX1_mostBehind_55 : decode cX1_mostBehind 55 = .ok (.iload_n 2, 1) := by decide +kernel
theorem dX1_mostBehind_56 : decode cX1_mostBehind 56 = .ok (.iload 5, 2) := by decide +kernel
theorem dX1_mostBehind_58 : decode cX1_mostBehind 58 = .ok (.isub, 1) := by decide +kernel
theorem dX1_mostBehind_59 : decode cX1_mostBehind 59 = .ok (.invokevirtual 64, 3) := by decide +kernel
theorem dX1_mostBehind_62 : decode cX1_mostBehind 62 = .ok (.iadd, 1) := by decide +kernel
theorem dX1_mostBehind_63 : decode cX1_mostBehind 63 = .ok (.invokestatic 72, 3) := by decide +kernel
theorem dX1_mostBehind_66 : decode cX1_mostBehind 66 = .ok (.istore_n 3, 1) := by decide +kernel
theorem dX1_mostBehind_67 : decode cX1_mostBehind 67 = .ok (.iinc 5 1, 3) := by decide +kernel
theorem dX1_mostBehind_70 : decode cX1_mostBehind 70 = .ok (.goto (-48), 3) := by decide +kernel
theorem dX1_mostBehind_73 : decode cX1_mostBehind 73 = .ok (.iload_n 3, 1) := by decide +kernel
theorem dX1_mostBehind_74 : decode cX1_mostBehind 74 = .ok (.ireturn, 1) := by decide +kernel
theorem dX2_init_0 : decode cX2_init 0 = .ok (.aload_n 0, 1) := by decide +kernel
theorem dX2_init_1 : decode cX2_init 1 = .ok (.invokespecial 3, 3) := by decide +kernel
theorem dX2_init_4 : decode cX2_init 4 = .ok (.aload_n 0, 1) := by decide +kernel
theorem dX2_init_5 : decode cX2_init 5 = .ok (.bipush 21, 2) := by decide +kernel
theorem dX2_init_7 : decode cX2_init 7 = .ok (.newarray .int, 2) := by decide +kernel
theorem dX2_init_9 : decode cX2_init 9 = .ok (.putfield 9, 3) := by decide +kernel
theorem dX2_init_12 : decode cX2_init 12 = .ok (.aload_n 0, 1) := by decide +kernel
theorem dX2_init_13 : decode cX2_init 13 = .ok (.iconst 0, 1) := by decide +kernel
theorem dX2_init_14 : decode cX2_init 14 = .ok (.putfield 15, 3) := by decide +kernel
theorem dX2_init_17 : decode cX2_init 17 = .ok (.aload_n 0, 1) := by decide +kernel
theorem dX2_init_18 : decode cX2_init 18 = .ok (.iconst 0, 1) := by decide +kernel
theorem dX2_init_19 : decode cX2_init 19 = .ok (.putfield 19, 3) := by decide +kernel
theorem dX2_init_22 : decode cX2_init 22 = .ok (.aload_n 0, 1) := by decide +kernel
theorem dX2_init_23 : decode cX2_init 23 = .ok (.iconst 0, 1) := by decide +kernel
theorem dX2_init_24 : decode cX2_init 24 = .ok (.putfield 22, 3) := by decide +kernel
theorem dX2_init_27 : decode cX2_init 27 = .ok (.aload_n 0, 1) := by decide +kernel
theorem dX2_init_28 : decode cX2_init 28 = .ok (.iload_n 1, 1) := by decide +kernel
theorem dX2_init_29 : decode cX2_init 29 = .ok (.putfield 25, 3) := by decide +kernel
theorem dX2_init_32 : decode cX2_init 32 = .ok (.aload_n 0, 1) := by decide +kernel
theorem dX2_init_33 : decode cX2_init 33 = .ok (.iload_n 2, 1) := by decide +kernel
theorem dX2_init_34 : decode cX2_init 34 = .ok (.putfield 28, 3) := by decide +kernel
theorem dX2_init_37 : decode cX2_init 37 = .ok (.aload_n 0, 1) := by decide +kernel
theorem dX2_init_38 : decode cX2_init 38 = .ok (.iload_n 3, 1) := by decide +kernel
theorem dX2_init_39 : decode cX2_init 39 = .ok (.putfield 31, 3) := by decide +kernel
theorem dX2_init_42 : decode cX2_init 42 = .ok (.aload_n 0, 1) := by decide +kernel
theorem dX2_init_43 : decode cX2_init 43 = .ok (.getfield 9, 3) := by decide +kernel
theorem dX2_init_46 : decode cX2_init 46 = .ok (.iconst 0, 1) := by decide +kernel
theorem dX2_init_47 : decode cX2_init 47 = .ok (.iload 4, 2) := by decide +kernel
theorem dX2_init_49 : decode cX2_init 49 = .ok (.iastore, 1) := by decide +kernel
theorem dX2_init_50 : decode cX2_init 50 = .ok (.return_, 1) := by decide +kernel
theorem dX2_covers_0 : decode cX2_covers 0 = .ok (.iload_n 1, 1) := by decide +kernel
theorem dX2_covers_1 : decode cX2_covers 1 = .ok (.aload_n 0, 1) := by decide +kernel
theorem dX2_covers_2 : decode cX2_covers 2 = .ok (.getfield 25, 3) := by decide +kernel
theorem dX2_covers_5 : decode cX2_covers 5 = .ok (.if_icmp .lt 15, 3) := by decide +kernel
theorem dX2_covers_8 : decode cX2_covers 8 = .ok (.iload_n 1, 1) := by decide +kernel
theorem dX2_covers_9 : decode cX2_covers 9 = .ok (.aload_n 0, 1) := by decide +kernel
theorem dX2_covers_10 : decode cX2_covers 10 = .ok (.getfield 28, 3) := by decide +kernel
theorem dX2_covers_13 : decode cX2_covers 13 = .ok (.if_icmp .gt 7, 3) := by decide +kernel
theorem dX2_covers_16 : decode cX2_covers 16 = .ok (.iconst 1, 1) := by decide +kernel
theorem dX2_covers_17 : decode cX2_covers 17 = .ok (.goto 4, 3) := by decide +kernel
theorem dX2_covers_20 : decode cX2_covers 20 = .ok (.iconst 0, 1) := by decide +kernel
theorem dX2_covers_21 : decode cX2_covers 21 = .ok (.ireturn, 1) := by decide +kernel
theorem dX2_toCome_0 : decode cX2_toCome 0 = .ok (.iconst 0, 1) := by decide +kernel
theorem dX2_toCome_1 : decode cX2_toCome 1 = .ok (.aload_n 0, 1) := by decide +kernel
theorem dX2_toCome_2 : decode cX2_toCome 2 = .ok (.getfield 15, 3) := by decide +kernel
theorem dX2_toCome_5 : decode cX2_toCome 5 = .ok (.aload_n 0, 1) := by decide +kernel
theorem dX2_toCome_6 : decode cX2_toCome 6 = .ok (.getfield 19, 3) := by decide +kernel
theorem dX2_toCome_9 : decode cX2_toCome 9 = .ok (.isub, 1) := by decide +kernel
theorem dX2_toCome_10 : decode cX2_toCome 10 = .ok (.invokestatic 34, 3) := by decide +kernel
theorem dX2_toCome_13 : decode cX2_toCome 13 = .ok (.ireturn, 1) := by decide +kernel
theorem dX2_protectedAgainst_0 : decode cX2_protectedAgainst 0 = .ok (.iload_n 2, 1) := by decide +kernel
theorem dX2_protectedAgainst_1 : decode cX2_protectedAgainst 1 = .ok (.ifCond .gt 5, 3) := by decide +kernel
theorem dX2_protectedAgainst_4 : decode cX2_protectedAgainst 4 = .ok (.iconst 0, 1) := by decide +kernel
theorem dX2_protectedAgainst_5 : decode cX2_protectedAgainst 5 = .ok (.ireturn, 1) := by decide +kernel
theorem dX2_protectedAgainst_6 : decode cX2_protectedAgainst 6 = .ok (.iload_n 1, 1) := by decide +kernel
theorem dX2_protectedAgainst_7 : decode cX2_protectedAgainst 7 = .ok (.i2l, 1) := by decide +kernel
theorem dX2_protectedAgainst_8 : decode cX2_protectedAgainst 8 = .ok (.iload_n 2, 1) := by decide +kernel
theorem dX2_protectedAgainst_9 : decode cX2_protectedAgainst 9 = .ok (.i2l, 1) := by decide +kernel
theorem dX2_protectedAgainst_10 : decode cX2_protectedAgainst 10 = .ok (.lmul, 1) := by decide +kernel
theorem dX2_protectedAgainst_11 : decode cX2_protectedAgainst 11 = .ok (.lstore_n 3, 1) := by decide +kernel
theorem dX2_protectedAgainst_12 : decode cX2_protectedAgainst 12 = .ok (.lconst 0, 1) := by decide +kernel
theorem dX2_protectedAgainst_13 : decode cX2_protectedAgainst 13 = .ok (.lstore 5, 2) := by decide +kernel
theorem dX2_protectedAgainst_15 : decode cX2_protectedAgainst 15 = .ok (.aload_n 0, 1) := by decide +kernel
theorem dX2_protectedAgainst_16 : decode cX2_protectedAgainst 16 = .ok (.getfield 9, 3) := by decide +kernel
theorem dX2_protectedAgainst_19 : decode cX2_protectedAgainst 19 = .ok (.arraylength, 1) := by decide +kernel
theorem dX2_protectedAgainst_20 : decode cX2_protectedAgainst 20 = .ok (.iconst 1, 1) := by decide +kernel
theorem dX2_protectedAgainst_21 : decode cX2_protectedAgainst 21 = .ok (.isub, 1) := by decide +kernel
theorem dX2_protectedAgainst_22 : decode cX2_protectedAgainst 22 = .ok (.istore 7, 2) := by decide +kernel
theorem dX2_protectedAgainst_24 : decode cX2_protectedAgainst 24 = .ok (.iload 7, 2) := by decide +kernel
theorem dX2_protectedAgainst_26 : decode cX2_protectedAgainst 26 = .ok (.ifCond .le 38, 3) := by decide +kernel
theorem dX2_protectedAgainst_29 : decode cX2_protectedAgainst 29 = .ok (.lload 5, 2) := by decide +kernel
theorem dX2_protectedAgainst_31 : decode cX2_protectedAgainst 31 = .ok (.aload_n 0, 1) := by decide +kernel
theorem dX2_protectedAgainst_32 : decode cX2_protectedAgainst 32 = .ok (.getfield 9, 3) := by decide +kernel
theorem dX2_protectedAgainst_35 : decode cX2_protectedAgainst 35 = .ok (.iload 7, 2) := by decide +kernel
theorem dX2_protectedAgainst_37 : decode cX2_protectedAgainst 37 = .ok (.iaload, 1) := by decide +kernel
theorem dX2_protectedAgainst_38 : decode cX2_protectedAgainst 38 = .ok (.i2l, 1) := by decide +kernel
theorem dX2_protectedAgainst_39 : decode cX2_protectedAgainst 39 = .ok (.ladd, 1) := by decide +kernel
theorem dX2_protectedAgainst_40 : decode cX2_protectedAgainst 40 = .ok (.lstore 5, 2) := by decide +kernel
theorem dX2_protectedAgainst_42 : decode cX2_protectedAgainst 42 = .ok (.aload_n 0, 1) := by decide +kernel
theorem dX2_protectedAgainst_43 : decode cX2_protectedAgainst 43 = .ok (.getfield 31, 3) := by decide +kernel
theorem dX2_protectedAgainst_46 : decode cX2_protectedAgainst 46 = .ok (.i2l, 1) := by decide +kernel
theorem dX2_protectedAgainst_47 : decode cX2_protectedAgainst 47 = .ok (.lload 5, 2) := by decide +kernel
theorem dX2_protectedAgainst_49 : decode cX2_protectedAgainst 49 = .ok (.lmul, 1) := by decide +kernel
theorem dX2_protectedAgainst_50 : decode cX2_protectedAgainst 50 = .ok (.lload_n 3, 1) := by decide +kernel
theorem dX2_protectedAgainst_51 : decode cX2_protectedAgainst 51 = .ok (.lcmp, 1) := by decide +kernel
theorem dX2_protectedAgainst_52 : decode cX2_protectedAgainst 52 = .ok (.ifCond .lt 6, 3) := by decide +kernel
theorem dX2_protectedAgainst_55 : decode cX2_protectedAgainst 55 = .ok (.iload 7, 2) := by decide +kernel
theorem dX2_protectedAgainst_57 : decode cX2_protectedAgainst 57 = .ok (.ireturn, 1) := by decide +kernel
theorem dX2_protectedAgainst_58 : decode cX2_protectedAgainst 58 = .ok (.iinc 7 (-1), 3) := by decide +kernel
theorem dX2_protectedAgainst_61 : decode cX2_protectedAgainst 61 = .ok (.goto (-37), 3) := by decide +kernel
theorem dX2_protectedAgainst_64 : decode cX2_protectedAgainst 64 = .ok (.iconst 0, 1) := by decide +kernel
theorem dX2_protectedAgainst_65 : decode cX2_protectedAgainst 65 = .ok (.ireturn, 1) := by decide +kernel
theorem dX2_learn_0 : decode cX2_learn 0 = .ok (.aload_n 0, 1) := by decide +kernel
theorem dX2_learn_1 : decode cX2_learn 1 = .ok (.getfield 19, 3) := by decide +kernel
theorem dX2_learn_4 : decode cX2_learn 4 = .ok (.bipush 20, 2) := by decide +kernel
theorem dX2_learn_6 : decode cX2_learn 6 = .ok (.invokestatic 40, 3) := by decide +kernel
theorem dX2_learn_9 : decode cX2_learn 9 = .ok (.istore_n 2, 1) := by decide +kernel
theorem dX2_learn_10 : decode cX2_learn 10 = .ok (.iload_n 2, 1) := by decide +kernel
theorem dX2_learn_11 : decode cX2_learn 11 = .ok (.ifCond .lt 22, 3) := by decide +kernel
theorem dX2_learn_14 : decode cX2_learn 14 = .ok (.iload_n 2, 1) := by decide +kernel
theorem dX2_learn_15 : decode cX2_learn 15 = .ok (.aload_n 0, 1) := by decide +kernel
theorem dX2_learn_16 : decode cX2_learn 16 = .ok (.getfield 9, 3) := by decide +kernel
theorem dX2_learn_19 : decode cX2_learn 19 = .ok (.arraylength, 1) := by decide +kernel
theorem dX2_learn_20 : decode cX2_learn 20 = .ok (.if_icmp .ge 13, 3) := by decide +kernel
theorem dX2_learn_23 : decode cX2_learn 23 = .ok (.aload_n 0, 1) := by decide +kernel
theorem dX2_learn_24 : decode cX2_learn 24 = .ok (.getfield 9, 3) := by decide +kernel
theorem dX2_learn_27 : decode cX2_learn 27 = .ok (.iload_n 2, 1) := by decide +kernel
theorem dX2_learn_28 : decode cX2_learn 28 = .ok (.dup2, 1) := by decide +kernel
theorem dX2_learn_29 : decode cX2_learn 29 = .ok (.iaload, 1) := by decide +kernel
theorem dX2_learn_30 : decode cX2_learn 30 = .ok (.iconst 1, 1) := by decide +kernel
theorem dX2_learn_31 : decode cX2_learn 31 = .ok (.iadd, 1) := by decide +kernel
theorem dX2_learn_32 : decode cX2_learn 32 = .ok (.iastore, 1) := by decide +kernel
theorem dX2_learn_33 : decode cX2_learn 33 = .ok (.aload_n 0, 1) := by decide +kernel
theorem dX2_learn_34 : decode cX2_learn 34 = .ok (.dup, 1) := by decide +kernel
theorem dX2_learn_35 : decode cX2_learn 35 = .ok (.getfield 22, 3) := by decide +kernel
theorem dX2_learn_38 : decode cX2_learn 38 = .ok (.aload_n 0, 1) := by decide +kernel
theorem dX2_learn_39 : decode cX2_learn 39 = .ok (.getfield 19, 3) := by decide +kernel
theorem dX2_learn_42 : decode cX2_learn 42 = .ok (.iadd, 1) := by decide +kernel
theorem dX2_learn_43 : decode cX2_learn 43 = .ok (.putfield 22, 3) := by decide +kernel
theorem dX2_learn_46 : decode cX2_learn 46 = .ok (.aload_n 0, 1) := by decide +kernel
theorem dX2_learn_47 : decode cX2_learn 47 = .ok (.iconst 0, 1) := by decide +kernel
theorem dX2_learn_48 : decode cX2_learn 48 = .ok (.putfield 19, 3) := by decide +kernel
theorem dX2_learn_51 : decode cX2_learn 51 = .ok (.iload_n 1, 1) := by decide +kernel
theorem dX2_learn_52 : decode cX2_learn 52 = .ok (.ifCond .le 13, 3) := by decide +kernel
theorem dX2_learn_55 : decode cX2_learn 55 = .ok (.aload_n 0, 1) := by decide +kernel
theorem dX2_learn_56 : decode cX2_learn 56 = .ok (.aload_n 0, 1) := by decide +kernel
theorem dX2_learn_57 : decode cX2_learn 57 = .ok (.getfield 22, 3) := by decide +kernel
theorem dX2_learn_60 : decode cX2_learn 60 = .ok (.iload_n 1, 1) := by decide +kernel
theorem dX2_learn_61 : decode cX2_learn 61 = .ok (.idiv, 1) := by decide +kernel
theorem dX2_learn_62 : decode cX2_learn 62 = .ok (.putfield 15, 3) := by decide +kernel
theorem dX2_learn_65 : decode cX2_learn 65 = .ok (.return_, 1) := by decide +kernel
theorem dX3_init_0 : decode cX3_init 0 = .ok (.aload_n 0, 1) := by decide +kernel
theorem dX3_init_1 : decode cX3_init 1 = .ok (.invokespecial 3, 3) := by decide +kernel
theorem dX3_init_4 : decode cX3_init 4 = .ok (.aload_n 0, 1) := by decide +kernel
theorem dX3_init_5 : decode cX3_init 5 = .ok (.bipush 12, 2) := by decide +kernel
theorem dX3_init_7 : decode cX3_init 7 = .ok (.newarray .int, 2) := by decide +kernel
theorem dX3_init_9 : decode cX3_init 9 = .ok (.putfield 9, 3) := by decide +kernel
theorem dX3_init_12 : decode cX3_init 12 = .ok (.aload_n 0, 1) := by decide +kernel
theorem dX3_init_13 : decode cX3_init 13 = .ok (.iconst 0, 1) := by decide +kernel
theorem dX3_init_14 : decode cX3_init 14 = .ok (.putfield 15, 3) := by decide +kernel
theorem dX3_init_17 : decode cX3_init 17 = .ok (.return_, 1) := by decide +kernel
theorem dX3_add_0 : decode cX3_add 0 = .ok (.iconst 0, 1) := by decide +kernel
theorem dX3_add_1 : decode cX3_add 1 = .ok (.istore_n 3, 1) := by decide +kernel
theorem dX3_add_2 : decode cX3_add 2 = .ok (.iload_n 3, 1) := by decide +kernel
theorem dX3_add_3 : decode cX3_add 3 = .ok (.iload_n 2, 1) := by decide +kernel
theorem dX3_add_4 : decode cX3_add 4 = .ok (.if_icmp .ge 62, 3) := by decide +kernel
theorem dX3_add_7 : decode cX3_add 7 = .ok (.aload_n 0, 1) := by decide +kernel
theorem dX3_add_8 : decode cX3_add 8 = .ok (.getfield 15, 3) := by decide +kernel
theorem dX3_add_11 : decode cX3_add 11 = .ok (.ifCond .lt 55, 3) := by decide +kernel
theorem dX3_add_14 : decode cX3_add 14 = .ok (.aload_n 0, 1) := by decide +kernel
theorem dX3_add_15 : decode cX3_add 15 = .ok (.getfield 15, 3) := by decide +kernel
theorem dX3_add_18 : decode cX3_add 18 = .ok (.iconst 1, 1) := by decide +kernel
theorem dX3_add_19 : decode cX3_add 19 = .ok (.iadd, 1) := by decide +kernel
theorem dX3_add_20 : decode cX3_add 20 = .ok (.aload_n 0, 1) := by decide +kernel
theorem dX3_add_21 : decode cX3_add 21 = .ok (.getfield 9, 3) := by decide +kernel
theorem dX3_add_24 : decode cX3_add 24 = .ok (.arraylength, 1) := by decide +kernel
theorem dX3_add_25 : decode cX3_add 25 = .ok (.if_icmp .ge 41, 3) := by decide +kernel
theorem dX3_add_28 : decode cX3_add 28 = .ok (.aload_n 0, 1) := by decide +kernel
theorem dX3_add_29 : decode cX3_add 29 = .ok (.getfield 9, 3) := by decide +kernel
theorem dX3_add_32 : decode cX3_add 32 = .ok (.aload_n 0, 1) := by decide +kernel
theorem dX3_add_33 : decode cX3_add 33 = .ok (.getfield 15, 3) := by decide +kernel
theorem dX3_add_36 : decode cX3_add 36 = .ok (.iconst 1, 1) := by decide +kernel
theorem dX3_add_37 : decode cX3_add 37 = .ok (.iadd, 1) := by decide +kernel
theorem dX3_add_38 : decode cX3_add 38 = .ok (.aload_n 0, 1) := by decide +kernel
theorem dX3_add_39 : decode cX3_add 39 = .ok (.getfield 9, 3) := by decide +kernel
theorem dX3_add_42 : decode cX3_add 42 = .ok (.aload_n 0, 1) := by decide +kernel
theorem dX3_add_43 : decode cX3_add 43 = .ok (.getfield 15, 3) := by decide +kernel
theorem dX3_add_46 : decode cX3_add 46 = .ok (.iaload, 1) := by decide +kernel
theorem dX3_add_47 : decode cX3_add 47 = .ok (.iload_n 1, 1) := by decide +kernel
theorem dX3_add_48 : decode cX3_add 48 = .ok (.iadd, 1) := by decide +kernel
theorem dX3_add_49 : decode cX3_add 49 = .ok (.iastore, 1) := by decide +kernel
theorem dX3_add_50 : decode cX3_add 50 = .ok (.aload_n 0, 1) := by decide +kernel
theorem dX3_add_51 : decode cX3_add 51 = .ok (.dup, 1) := by decide +kernel
theorem dX3_add_52 : decode cX3_add 52 = .ok (.getfield 15, 3) := by decide +kernel
theorem dX3_add_55 : decode cX3_add 55 = .ok (.iconst 1, 1) := by decide +kernel
theorem dX3_add_56 : decode cX3_add 56 = .ok (.iadd, 1) := by decide +kernel
theorem dX3_add_57 : decode cX3_add 57 = .ok (.putfield 15, 3) := by decide +kernel
theorem dX3_add_60 : decode cX3_add 60 = .ok (.iinc 3 1, 3) := by decide +kernel
theorem dX3_add_63 : decode cX3_add 63 = .ok (.goto (-61), 3) := by decide +kernel
theorem dX3_add_66 : decode cX3_add 66 = .ok (.return_, 1) := by decide +kernel
theorem dX3_mostFor_0 : decode cX3_mostFor 0 = .ok (.iload_n 1, 1) := by decide +kernel
theorem dX3_mostFor_1 : decode cX3_mostFor 1 = .ok (.aload_n 0, 1) := by decide +kernel
theorem dX3_mostFor_2 : decode cX3_mostFor 2 = .ok (.getfield 15, 3) := by decide +kernel
theorem dX3_mostFor_5 : decode cX3_mostFor 5 = .ok (.if_icmp .ge 7, 3) := by decide +kernel
theorem dX3_mostFor_8 : decode cX3_mostFor 8 = .ok (.iload_n 1, 1) := by decide +kernel
theorem dX3_mostFor_9 : decode cX3_mostFor 9 = .ok (.goto 7, 3) := by decide +kernel
theorem dX3_mostFor_12 : decode cX3_mostFor 12 = .ok (.aload_n 0, 1) := by decide +kernel
theorem dX3_mostFor_13 : decode cX3_mostFor 13 = .ok (.getfield 15, 3) := by decide +kernel
theorem dX3_mostFor_16 : decode cX3_mostFor 16 = .ok (.istore_n 2, 1) := by decide +kernel
theorem dX3_mostFor_17 : decode cX3_mostFor 17 = .ok (.iload_n 2, 1) := by decide +kernel
theorem dX3_mostFor_18 : decode cX3_mostFor 18 = .ok (.ifCond .lt 21, 3) := by decide +kernel
theorem dX3_mostFor_21 : decode cX3_mostFor 21 = .ok (.iload_n 2, 1) := by decide +kernel
theorem dX3_mostFor_22 : decode cX3_mostFor 22 = .ok (.aload_n 0, 1) := by decide +kernel
theorem dX3_mostFor_23 : decode cX3_mostFor 23 = .ok (.getfield 9, 3) := by decide +kernel
theorem dX3_mostFor_26 : decode cX3_mostFor 26 = .ok (.arraylength, 1) := by decide +kernel
theorem dX3_mostFor_27 : decode cX3_mostFor 27 = .ok (.if_icmp .ge 12, 3) := by decide +kernel
theorem dX3_mostFor_30 : decode cX3_mostFor 30 = .ok (.aload_n 0, 1) := by decide +kernel
theorem dX3_mostFor_31 : decode cX3_mostFor 31 = .ok (.getfield 9, 3) := by decide +kernel
theorem dX3_mostFor_34 : decode cX3_mostFor 34 = .ok (.iload_n 2, 1) := by decide +kernel
theorem dX3_mostFor_35 : decode cX3_mostFor 35 = .ok (.iaload, 1) := by decide +kernel
theorem dX3_mostFor_36 : decode cX3_mostFor 36 = .ok (.goto 4, 3) := by decide +kernel
theorem dX3_mostFor_39 : decode cX3_mostFor 39 = .ok (.iconst 0, 1) := by decide +kernel
theorem dX3_mostFor_40 : decode cX3_mostFor 40 = .ok (.ireturn, 1) := by decide +kernel
theorem dX4_init_0 : decode cX4_init 0 = .ok (.aload_n 0, 1) := by decide +kernel
theorem dX4_init_1 : decode cX4_init 1 = .ok (.invokespecial 3, 3) := by decide +kernel
theorem dX4_init_4 : decode cX4_init 4 = .ok (.aload_n 0, 1) := by decide +kernel
theorem dX4_init_5 : decode cX4_init 5 = .ok (.sipush 1331, 3) := by decide +kernel
theorem dX4_init_8 : decode cX4_init 8 = .ok (.newarray .int, 2) := by decide +kernel
theorem dX4_init_10 : decode cX4_init 10 = .ok (.putfield 11, 3) := by decide +kernel
theorem dX4_init_13 : decode cX4_init 13 = .ok (.return_, 1) := by decide +kernel
theorem dX4_cellOf_0 : decode cX4_cellOf 0 = .ok (.iload_n 0, 1) := by decide +kernel
theorem dX4_cellOf_1 : decode cX4_cellOf 1 = .ok (.bipush 11, 2) := by decide +kernel
theorem dX4_cellOf_3 : decode cX4_cellOf 3 = .ok (.imul, 1) := by decide +kernel
theorem dX4_cellOf_4 : decode cX4_cellOf 4 = .ok (.iload_n 1, 1) := by decide +kernel
theorem dX4_cellOf_5 : decode cX4_cellOf 5 = .ok (.iadd, 1) := by decide +kernel
theorem dX4_cellOf_6 : decode cX4_cellOf 6 = .ok (.bipush 11, 2) := by decide +kernel
theorem dX4_cellOf_8 : decode cX4_cellOf 8 = .ok (.imul, 1) := by decide +kernel
theorem dX4_cellOf_9 : decode cX4_cellOf 9 = .ok (.iload_n 2, 1) := by decide +kernel
theorem dX4_cellOf_10 : decode cX4_cellOf 10 = .ok (.iadd, 1) := by decide +kernel
theorem dX4_cellOf_11 : decode cX4_cellOf 11 = .ok (.ireturn, 1) := by decide +kernel
set_option maxRecDepth 20000 in
theorem ggX4_clear_J7_fill_53178 : GoodIn wsX4_clear wsJ7_fill_53178 := goodIn_r _ [5] (by decide +kernel) (by decide +kernel)
set_option maxRecDepth 20000 in
theorem gX4_clear_J7_fill_53178 : GoodIn wsX4_clear (va_wsS RX4 15 yJ7_fill_53178 wsJ7_fill_53178) := goodIn_app (goodIn_of _ (by decide +kernel)) ggX4_clear_J7_fill_53178
theorem dX4_clear_0 : decode cX4_clear 0 = .ok (.aload_n 0, 1) := by decide +kernel
theorem dX4_clear_1 : decode cX4_clear 1 = .ok (.getfield 11, 3) := by decide +kernel
theorem dX4_clear_4 : decode cX4_clear 4 = .ok (.iconst 0, 1) := by decide +kernel
theorem dX4_clear_5 : decode cX4_clear 5 = .ok (.invokestatic 15, 3) := by decide +kernel
theorem dX4_clear_8 : decode cX4_clear 8 = .ok (.return_, 1) := by decide +kernel
set_option maxRecDepth 20000 in
theorem ggX4_admit_X2_toCome : GoodIn wsX4_admit wsX2_toCome := goodIn_r _ [8, 9, 10, 11, 12, 3, 13, 32, 33, 34, 35, 36, 37, 38] (by decide +kernel) (by decide +kernel)
set_option maxRecDepth 20000 in
theorem gX4_admit_X2_toCome_n21 : GoodIn wsX4_admit (wsX2_toCome) := ggX4_admit_X2_toCome
set_option maxRecDepth 20000 in
theorem ggX4_admit_X4_admitOne : GoodIn wsX4_admit wsX4_admitOne := goodIn_r _ [18, 19, 6, 20, 21, 22, 23, 24, 25, 17, 26, 27, 28, 29, 30, 31, 32, 33, 34, 35, 36, 37, 38, 39] (by decide +kernel) (by decide +kernel)
set_option maxRecDepth 20000 in
theorem gX4_admit_X4_admitOne : GoodIn wsX4_admit (wsV RX4 33 RX4 yX4_admitOne wsX4_admitOne) := goodIn_app (goodIn_of _ (by decide +kernel)) ggX4_admit_X4_admitOne
theorem dX4_admit_0 : decode cX4_admit 0 = .ok (.aload_n 1, 1) := by decide +kernel
theorem dX4_admit_1 : decode cX4_admit 1 = .ok (.invokevirtual 21, 3) := by decide +kernel
theorem dX4_admit_4 : decode cX4_admit 4 = .ok (.bipush 10, 2) := by decide +kernel
theorem dX4_admit_6 : decode cX4_admit 6 = .ok (.invokestatic 27, 3) := by decide +kernel
theorem dX4_admit_9 : decode cX4_admit 9 = .ok (.istore 5, 2) := by decide +kernel
theorem dX4_admit_11 : decode cX4_admit 11 = .ok (.iconst 0, 1) := by decide +kernel
theorem dX4_admit_12 : decode cX4_admit 12 = .ok (.istore 6, 2) := by decide +kernel
theorem dX4_admit_14 : decode cX4_admit 14 = .ok (.iload 6, 2) := by decide +kernel
theorem dX4_admit_16 : decode cX4_admit 16 = .ok (.iload 5, 2) := by decide +kernel
theorem dX4_admit_18 : decode cX4_admit 18 = .ok (.if_icmp .ge 18, 3) := by decide +kernel
theorem dX4_admit_21 : decode cX4_admit 21 = .ok (.aload_n 0, 1) := by decide +kernel
theorem dX4_admit_22 : decode cX4_admit 22 = .ok (.aload_n 1, 1) := by decide +kernel
theorem dX4_admit_23 : decode cX4_admit 23 = .ok (.iload_n 2, 1) := by decide +kernel
theorem dX4_admit_24 : decode cX4_admit 24 = .ok (.iload_n 3, 1) := by decide +kernel
theorem dX4_admit_25 : decode cX4_admit 25 = .ok (.iload 4, 2) := by decide +kernel
theorem dX4_admit_27 : decode cX4_admit 27 = .ok (.invokevirtual 33, 3) := by decide +kernel
theorem dX4_admit_30 : decode cX4_admit 30 = .ok (.iinc 6 1, 3) := by decide +kernel
theorem dX4_admit_33 : decode cX4_admit 33 = .ok (.goto (-19), 3) := by decide +kernel
theorem dX4_admit_36 : decode cX4_admit 36 = .ok (.return_, 1) := by decide +kernel
set_option maxRecDepth 20000 in
theorem ggX4_admitOne_X2_covers : GoodIn wsX4_admitOne wsX2_covers := goodIn_r _ [4, 5, 6, 16, 17, 18, 19, 20, 21, 22] (by decide +kernel) (by decide +kernel)
set_option maxRecDepth 20000 in
theorem gX4_admitOne_X2_covers_n37 : GoodIn wsX4_admitOne (wsX2_covers) := ggX4_admitOne_X2_covers
set_option maxRecDepth 20000 in
theorem ggX4_admitOne_X4_cellOf : GoodIn wsX4_admitOne wsX4_cellOf := goodIn_r _ [10] (by decide +kernel) (by decide +kernel)
set_option maxRecDepth 20000 in
theorem gX4_admitOne_X4_cellOf : GoodIn wsX4_admitOne (va_wsS RX4 41 yX4_cellOf wsX4_cellOf) := goodIn_app (goodIn_of _ (by decide +kernel)) ggX4_admitOne_X4_cellOf
set_option maxRecDepth 20000 in
theorem ggX4_admitOne_X4_raiseRow : GoodIn wsX4_admitOne wsX4_raiseRow := goodIn_r _ [14, 15, 23] (by decide +kernel) (by decide +kernel)
set_option maxRecDepth 20000 in
theorem gX4_admitOne_X4_raiseRow : GoodIn wsX4_admitOne (wsV RX4 49 RX4 yX4_raiseRow wsX4_raiseRow) := goodIn_app (goodIn_of _ (by decide +kernel)) ggX4_admitOne_X4_raiseRow
theorem dX4_admitOne_0 : decode cX4_admitOne 0 = .ok (.aload_n 1, 1) := by decide +kernel
theorem dX4_admitOne_1 : decode cX4_admitOne 1 = .ok (.iconst 0, 1) := by decide +kernel
theorem dX4_admitOne_2 : decode cX4_admitOne 2 = .ok (.invokevirtual 37, 3) := by decide +kernel
theorem dX4_admitOne_5 : decode cX4_admitOne 5 = .ok (.ifCond .eq 7, 3) := by decide +kernel
theorem dX4_admitOne_8 : decode cX4_admitOne 8 = .ok (.iconst 1, 1) := by decide +kernel
theorem dX4_admitOne_9 : decode cX4_admitOne 9 = .ok (.goto 4, 3) := by decide +kernel
theorem dX4_admitOne_12 : decode cX4_admitOne 12 = .ok (.iconst 0, 1) := by decide +kernel
theorem dX4_admitOne_13 : decode cX4_admitOne 13 = .ok (.istore 5, 2) := by decide +kernel
theorem dX4_admitOne_15 : decode cX4_admitOne 15 = .ok (.aload_n 1, 1) := by decide +kernel
theorem dX4_admitOne_16 : decode cX4_admitOne 16 = .ok (.iconst 1, 1) := by decide +kernel
theorem dX4_admitOne_17 : decode cX4_admitOne 17 = .ok (.invokevirtual 37, 3) := by decide +kernel
theorem dX4_admitOne_20 : decode cX4_admitOne 20 = .ok (.ifCond .eq 7, 3) := by decide +kernel
theorem dX4_admitOne_23 : decode cX4_admitOne 23 = .ok (.iconst 1, 1) := by decide +kernel
theorem dX4_admitOne_24 : decode cX4_admitOne 24 = .ok (.goto 4, 3) := by decide +kernel
theorem dX4_admitOne_27 : decode cX4_admitOne 27 = .ok (.iconst 0, 1) := by decide +kernel
theorem dX4_admitOne_28 : decode cX4_admitOne 28 = .ok (.istore 6, 2) := by decide +kernel
theorem dX4_admitOne_30 : decode cX4_admitOne 30 = .ok (.aload_n 1, 1) := by decide +kernel
theorem dX4_admitOne_31 : decode cX4_admitOne 31 = .ok (.iconst 2, 1) := by decide +kernel
theorem dX4_admitOne_32 : decode cX4_admitOne 32 = .ok (.invokevirtual 37, 3) := by decide +kernel
theorem dX4_admitOne_35 : decode cX4_admitOne 35 = .ok (.ifCond .eq 7, 3) := by decide +kernel
theorem dX4_admitOne_38 : decode cX4_admitOne 38 = .ok (.iconst 1, 1) := by decide +kernel
theorem dX4_admitOne_39 : decode cX4_admitOne 39 = .ok (.goto 4, 3) := by decide +kernel
theorem dX4_admitOne_42 : decode cX4_admitOne 42 = .ok (.iconst 0, 1) := by decide +kernel
theorem dX4_admitOne_43 : decode cX4_admitOne 43 = .ok (.istore 7, 2) := by decide +kernel
theorem dX4_admitOne_45 : decode cX4_admitOne 45 = .ok (.iload 5, 2) := by decide +kernel
theorem dX4_admitOne_47 : decode cX4_admitOne 47 = .ok (.iload 6, 2) := by decide +kernel
theorem dX4_admitOne_49 : decode cX4_admitOne 49 = .ok (.iload 7, 2) := by decide +kernel
theorem dX4_admitOne_51 : decode cX4_admitOne 51 = .ok (.invokestatic 41, 3) := by decide +kernel
theorem dX4_admitOne_54 : decode cX4_admitOne 54 = .ok (.istore 8, 2) := by decide +kernel
theorem dX4_admitOne_56 : decode cX4_admitOne 56 = .ok (.iload_n 2, 1) := by decide +kernel
theorem dX4_admitOne_57 : decode cX4_admitOne 57 = .ok (.istore 9, 2) := by decide +kernel
theorem dX4_admitOne_59 : decode cX4_admitOne 59 = .ok (.iload 9, 2) := by decide +kernel
theorem dX4_admitOne_61 : decode cX4_admitOne 61 = .ok (.iload 5, 2) := by decide +kernel
theorem dX4_admitOne_63 : decode cX4_admitOne 63 = .ok (.if_icmp .lt 53, 3) := by decide +kernel
theorem dX4_admitOne_66 : decode cX4_admitOne 66 = .ok (.iload_n 3, 1) := by decide +kernel
theorem dX4_admitOne_67 : decode cX4_admitOne 67 = .ok (.istore 10, 2) := by decide +kernel
theorem dX4_admitOne_69 : decode cX4_admitOne 69 = .ok (.iload 10, 2) := by decide +kernel
theorem dX4_admitOne_71 : decode cX4_admitOne 71 = .ok (.iload 6, 2) := by decide +kernel
theorem dX4_admitOne_73 : decode cX4_admitOne 73 = .ok (.if_icmp .lt 37, 3) := by decide +kernel
theorem dX4_admitOne_76 : decode cX4_admitOne 76 = .ok (.aload_n 0, 1) := by decide +kernel
theorem dX4_admitOne_77 : decode cX4_admitOne 77 = .ok (.iload 9, 2) := by decide +kernel
theorem dX4_admitOne_79 : decode cX4_admitOne 79 = .ok (.iload 10, 2) := by decide +kernel
theorem dX4_admitOne_81 : decode cX4_admitOne 81 = .ok (.iload 7, 2) := by decide +kernel
theorem dX4_admitOne_83 : decode cX4_admitOne 83 = .ok (.invokestatic 41, 3) := by decide +kernel
theorem dX4_admitOne_86 : decode cX4_admitOne 86 = .ok (.iload 9, 2) := by decide +kernel
theorem dX4_admitOne_88 : decode cX4_admitOne 88 = .ok (.iload 10, 2) := by decide +kernel
theorem dX4_admitOne_90 : decode cX4_admitOne 90 = .ok (.iload 4, 2) := by decide +kernel
theorem dX4_admitOne_92 : decode cX4_admitOne 92 = .ok (.invokestatic 41, 3) := by decide +kernel
theorem dX4_admitOne_95 : decode cX4_admitOne 95 = .ok (.iload 8, 2) := by decide +kernel
theorem dX4_admitOne_97 : decode cX4_admitOne 97 = .ok (.aload_n 1, 1) := by decide +kernel
theorem dX4_admitOne_98 : decode cX4_admitOne 98 = .ok (.getfield 45, 3) := by decide +kernel
theorem dX4_admitOne_101 : decode cX4_admitOne 101 = .ok (.invokevirtual 49, 3) := by decide +kernel
theorem dX4_admitOne_104 : decode cX4_admitOne 104 = .ok (.iinc 10 (-1), 3) := by decide +kernel
theorem dX4_admitOne_107 : decode cX4_admitOne 107 = .ok (.goto (-38), 3) := by decide +kernel
theorem dX4_admitOne_110 : decode cX4_admitOne 110 = .ok (.iinc 9 (-1), 3) := by decide +kernel
theorem dX4_admitOne_113 : decode cX4_admitOne 113 = .ok (.goto (-54), 3) := by decide +kernel
theorem dX4_admitOne_116 : decode cX4_admitOne 116 = .ok (.return_, 1) := by decide +kernel
theorem dX4_raiseRow_0 : decode cX4_raiseRow 0 = .ok (.iload_n 1, 1) := by decide +kernel
theorem dX4_raiseRow_1 : decode cX4_raiseRow 1 = .ok (.iload_n 3, 1) := by decide +kernel
theorem dX4_raiseRow_2 : decode cX4_raiseRow 2 = .ok (.isub, 1) := by decide +kernel
theorem dX4_raiseRow_3 : decode cX4_raiseRow 3 = .ok (.ifCond .lt 16, 3) := by decide +kernel
theorem dX4_raiseRow_6 : decode cX4_raiseRow 6 = .ok (.iload_n 3, 1) := by decide +kernel
theorem dX4_raiseRow_7 : decode cX4_raiseRow 7 = .ok (.ifCond .lt 12, 3) := by decide +kernel
theorem dX4_raiseRow_10 : decode cX4_raiseRow 10 = .ok (.iload_n 2, 1) := by decide +kernel
theorem dX4_raiseRow_11 : decode cX4_raiseRow 11 = .ok (.aload_n 0, 1) := by decide +kernel
theorem dX4_raiseRow_12 : decode cX4_raiseRow 12 = .ok (.getfield 11, 3) := by decide +kernel
theorem dX4_raiseRow_15 : decode cX4_raiseRow 15 = .ok (.arraylength, 1) := by decide +kernel
theorem dX4_raiseRow_16 : decode cX4_raiseRow 16 = .ok (.if_icmp .lt 4, 3) := by decide +kernel
theorem dX4_raiseRow_19 : decode cX4_raiseRow 19 = .ok (.return_, 1) := by decide +kernel
theorem dX4_raiseRow_20 : decode cX4_raiseRow 20 = .ok (.iload_n 2, 1) := by decide +kernel
theorem dX4_raiseRow_21 : decode cX4_raiseRow 21 = .ok (.istore 5, 2) := by decide +kernel
theorem dX4_raiseRow_23 : decode cX4_raiseRow 23 = .ok (.iload 5, 2) := by decide +kernel
theorem dX4_raiseRow_25 : decode cX4_raiseRow 25 = .ok (.iload_n 1, 1) := by decide +kernel
theorem dX4_raiseRow_26 : decode cX4_raiseRow 26 = .ok (.if_icmp .lt 44, 3) := by decide +kernel
theorem dX4_raiseRow_29 : decode cX4_raiseRow 29 = .ok (.aload_n 0, 1) := by decide +kernel
theorem dX4_raiseRow_30 : decode cX4_raiseRow 30 = .ok (.getfield 11, 3) := by decide +kernel
theorem dX4_raiseRow_33 : decode cX4_raiseRow 33 = .ok (.iload 5, 2) := by decide +kernel
theorem dX4_raiseRow_35 : decode cX4_raiseRow 35 = .ok (.iload_n 3, 1) := by decide +kernel
theorem dX4_raiseRow_36 : decode cX4_raiseRow 36 = .ok (.isub, 1) := by decide +kernel
theorem dX4_raiseRow_37 : decode cX4_raiseRow 37 = .ok (.iaload, 1) := by decide +kernel
theorem dX4_raiseRow_38 : decode cX4_raiseRow 38 = .ok (.iload 4, 2) := by decide +kernel
theorem dX4_raiseRow_40 : decode cX4_raiseRow 40 = .ok (.iadd, 1) := by decide +kernel
theorem dX4_raiseRow_41 : decode cX4_raiseRow 41 = .ok (.istore 6, 2) := by decide +kernel
theorem dX4_raiseRow_43 : decode cX4_raiseRow 43 = .ok (.iload 6, 2) := by decide +kernel
theorem dX4_raiseRow_45 : decode cX4_raiseRow 45 = .ok (.aload_n 0, 1) := by decide +kernel
theorem dX4_raiseRow_46 : decode cX4_raiseRow 46 = .ok (.getfield 11, 3) := by decide +kernel
theorem dX4_raiseRow_49 : decode cX4_raiseRow 49 = .ok (.iload 5, 2) := by decide +kernel
theorem dX4_raiseRow_51 : decode cX4_raiseRow 51 = .ok (.iaload, 1) := by decide +kernel
theorem dX4_raiseRow_52 : decode cX4_raiseRow 52 = .ok (.if_icmp .le 12, 3) := by decide +kernel
theorem dX4_raiseRow_55 : decode cX4_raiseRow 55 = .ok (.aload_n 0, 1) := by decide +kernel
theorem dX4_raiseRow_56 : decode cX4_raiseRow 56 = .ok (.getfield 11, 3) := by decide +kernel
theorem dX4_raiseRow_59 : decode cX4_raiseRow 59 = .ok (.iload 5, 2) := by decide +kernel
theorem dX4_raiseRow_61 : decode cX4_raiseRow 61 = .ok (.iload 6, 2) := by decide +kernel
theorem dX4_raiseRow_63 : decode cX4_raiseRow 63 = .ok (.iastore, 1) := by decide +kernel
theorem dX4_raiseRow_64 : decode cX4_raiseRow 64 = .ok (.iinc 5 (-1), 3) := by decide +kernel
theorem dX4_raiseRow_67 : decode cX4_raiseRow 67 = .ok (.goto (-44), 3) := by decide +kernel
theorem dX4_raiseRow_70 : decode cX4_raiseRow 70 = .ok (.return_, 1) := by decide +kernel
set_option maxRecDepth 20000 in
theorem ggX4_valueOf_X4_cellOf : GoodIn wsX4_valueOf wsX4_cellOf := goodIn_r _ [5] (by decide +kernel) (by decide +kernel)
set_option maxRecDepth 20000 in
theorem gX4_valueOf_X4_cellOf : GoodIn wsX4_valueOf (va_wsS RX4 41 yX4_cellOf wsX4_cellOf) := goodIn_app (goodIn_of _ (by decide +kernel)) ggX4_valueOf_X4_cellOf
theorem dX4_valueOf_0 : decode cX4_valueOf 0 = .ok (.iload_n 1, 1) := by decide +kernel
theorem dX4_valueOf_1 : decode cX4_valueOf 1 = .ok (.iload_n 2, 1) := by decide +kernel
theorem dX4_valueOf_2 : decode cX4_valueOf 2 = .ok (.iload_n 3, 1) := by decide +kernel
theorem dX4_valueOf_3 : decode cX4_valueOf 3 = .ok (.invokestatic 41, 3) := by decide +kernel
theorem dX4_valueOf_6 : decode cX4_valueOf 6 = .ok (.istore 4, 2) := by decide +kernel
theorem dX4_valueOf_8 : decode cX4_valueOf 8 = .ok (.iload 4, 2) := by decide +kernel
theorem dX4_valueOf_10 : decode cX4_valueOf 10 = .ok (.ifCond .lt 23, 3) := by decide +kernel
theorem dX4_valueOf_13 : decode cX4_valueOf 13 = .ok (.iload 4, 2) := by decide +kernel
theorem dX4_valueOf_15 : decode cX4_valueOf 15 = .ok (.aload_n 0, 1) := by decide +kernel
theorem dX4_valueOf_16 : decode cX4_valueOf 16 = .ok (.getfield 11, 3) := by decide +kernel
theorem dX4_valueOf_19 : decode cX4_valueOf 19 = .ok (.arraylength, 1) := by decide +kernel
theorem dX4_valueOf_20 : decode cX4_valueOf 20 = .ok (.if_icmp .ge 13, 3) := by decide +kernel
theorem dX4_valueOf_23 : decode cX4_valueOf 23 = .ok (.aload_n 0, 1) := by decide +kernel
theorem dX4_valueOf_24 : decode cX4_valueOf 24 = .ok (.getfield 11, 3) := by decide +kernel
theorem dX4_valueOf_27 : decode cX4_valueOf 27 = .ok (.iload 4, 2) := by decide +kernel
theorem dX4_valueOf_29 : decode cX4_valueOf 29 = .ok (.iaload, 1) := by decide +kernel
theorem dX4_valueOf_30 : decode cX4_valueOf 30 = .ok (.goto 4, 3) := by decide +kernel
theorem dX4_valueOf_33 : decode cX4_valueOf 33 = .ok (.iconst 0, 1) := by decide +kernel
theorem dX4_valueOf_34 : decode cX4_valueOf 34 = .ok (.ireturn, 1) := by decide +kernel
set_option maxRecDepth 20000 in
theorem ggX5_init_X1_init : GoodIn wsX5_init wsX1_init := goodIn_r _ [28, 29, 2, 3, 30, 31, 32, 33, 34, 35, 36, 37, 38, 39, 40, 41, 4, 42, 43, 69, 70, 62, 63, 64, 65, 66, 67] (by decide +kernel) (by decide +kernel)
set_option maxRecDepth 20000 in
theorem gX5_init_X1_init_n30 : GoodIn wsX5_init (wsX1_init) := ggX5_init_X1_init
set_option maxRecDepth 20000 in
theorem ggX5_init_X4_init : GoodIn wsX5_init wsX4_init := goodIn_r _ [45, 46, 2, 3, 4, 47, 68] (by decide +kernel) (by decide +kernel)
set_option maxRecDepth 20000 in
theorem gX5_init_X4_init_n37 : GoodIn wsX5_init (wsX4_init) := ggX5_init_X4_init
theorem dX5_init_0 : decode cX5_init 0 = .ok (.aload_n 0, 1) := by decide +kernel
theorem dX5_init_1 : decode cX5_init 1 = .ok (.invokespecial 3, 3) := by decide +kernel
theorem dX5_init_4 : decode cX5_init 4 = .ok (.aload_n 0, 1) := by decide +kernel
theorem dX5_init_5 : decode cX5_init 5 = .ok (.iconst 3, 1) := by decide +kernel
theorem dX5_init_6 : decode cX5_init 6 = .ok (.newarray .int, 2) := by decide +kernel
theorem dX5_init_8 : decode cX5_init 8 = .ok (.putfield 9, 3) := by decide +kernel
theorem dX5_init_11 : decode cX5_init 11 = .ok (.aload_n 0, 1) := by decide +kernel
theorem dX5_init_12 : decode cX5_init 12 = .ok (.bipush 8, 2) := by decide +kernel
theorem dX5_init_14 : decode cX5_init 14 = .ok (.anewarray 13, 3) := by decide +kernel
theorem dX5_init_17 : decode cX5_init 17 = .ok (.putfield 15, 3) := by decide +kernel
theorem dX5_init_20 : decode cX5_init 20 = .ok (.aload_n 0, 1) := by decide +kernel
theorem dX5_init_21 : decode cX5_init 21 = .ok (.bipush 8, 2) := by decide +kernel
theorem dX5_init_23 : decode cX5_init 23 = .ok (.anewarray 13, 3) := by decide +kernel
theorem dX5_init_26 : decode cX5_init 26 = .ok (.putfield 19, 3) := by decide +kernel
theorem dX5_init_29 : decode cX5_init 29 = .ok (.aload_n 0, 1) := by decide +kernel
theorem dX5_init_30 : decode cX5_init 30 = .ok (.bipush 60, 2) := by decide +kernel
theorem dX5_init_32 : decode cX5_init 32 = .ok (.anewarray 22, 3) := by decide +kernel
theorem dX5_init_35 : decode cX5_init 35 = .ok (.putfield 24, 3) := by decide +kernel
theorem dX5_init_38 : decode cX5_init 38 = .ok (.aload_n 0, 1) := by decide +kernel
theorem dX5_init_39 : decode cX5_init 39 = .ok (.new 28, 3) := by decide +kernel
theorem dX5_init_42 : decode cX5_init 42 = .ok (.dup, 1) := by decide +kernel
theorem dX5_init_43 : decode cX5_init 43 = .ok (.invokespecial 30, 3) := by decide +kernel
theorem dX5_init_46 : decode cX5_init 46 = .ok (.putfield 31, 3) := by decide +kernel
theorem dX5_init_49 : decode cX5_init 49 = .ok (.aload_n 0, 1) := by decide +kernel
theorem dX5_init_50 : decode cX5_init 50 = .ok (.new 35, 3) := by decide +kernel
theorem dX5_init_53 : decode cX5_init 53 = .ok (.dup, 1) := by decide +kernel
theorem dX5_init_54 : decode cX5_init 54 = .ok (.invokespecial 37, 3) := by decide +kernel
theorem dX5_init_57 : decode cX5_init 57 = .ok (.putfield 38, 3) := by decide +kernel
theorem dX5_init_60 : decode cX5_init 60 = .ok (.aload_n 0, 1) := by decide +kernel
theorem dX5_init_61 : decode cX5_init 61 = .ok (.iconst 0, 1) := by decide +kernel
theorem dX5_init_62 : decode cX5_init 62 = .ok (.putfield 42, 3) := by decide +kernel
theorem dX5_init_65 : decode cX5_init 65 = .ok (.aload_n 0, 1) := by decide +kernel
theorem dX5_init_66 : decode cX5_init 66 = .ok (.iconst 0, 1) := by decide +kernel
theorem dX5_init_67 : decode cX5_init 67 = .ok (.putfield 46, 3) := by decide +kernel
theorem dX5_init_70 : decode cX5_init 70 = .ok (.aload_n 0, 1) := by decide +kernel
theorem dX5_init_71 : decode cX5_init 71 = .ok (.iconst 0, 1) := by decide +kernel
theorem dX5_init_72 : decode cX5_init 72 = .ok (.putfield 49, 3) := by decide +kernel
theorem dX5_init_75 : decode cX5_init 75 = .ok (.aload_n 0, 1) := by decide +kernel
theorem dX5_init_76 : decode cX5_init 76 = .ok (.bipush 100, 2) := by decide +kernel
theorem dX5_init_78 : decode cX5_init 78 = .ok (.putfield 52, 3) := by decide +kernel
theorem dX5_init_81 : decode cX5_init 81 = .ok (.aload_n 0, 1) := by decide +kernel
theorem dX5_init_82 : decode cX5_init 82 = .ok (.iconst 0, 1) := by decide +kernel
theorem dX5_init_83 : decode cX5_init 83 = .ok (.putfield 55, 3) := by decide +kernel
theorem dX5_init_86 : decode cX5_init 86 = .ok (.aload_n 0, 1) := by decide +kernel
theorem dX5_init_87 : decode cX5_init 87 = .ok (.iconst 0, 1) := by decide +kernel
theorem dX5_init_88 : decode cX5_init 88 = .ok (.putfield 58, 3) := by decide +kernel
theorem dX5_init_91 : decode cX5_init 91 = .ok (.aload_n 0, 1) := by decide +kernel
theorem dX5_init_92 : decode cX5_init 92 = .ok (.iconst 0, 1) := by decide +kernel
theorem dX5_init_93 : decode cX5_init 93 = .ok (.putfield 61, 3) := by decide +kernel
theorem dX5_init_96 : decode cX5_init 96 = .ok (.aload_n 0, 1) := by decide +kernel
theorem dX5_init_97 : decode cX5_init 97 = .ok (.lconst 0, 1) := by decide +kernel
theorem dX5_init_98 : decode cX5_init 98 = .ok (.putfield 64, 3) := by decide +kernel
theorem dX5_init_101 : decode cX5_init 101 = .ok (.return_, 1) := by decide +kernel
set_option maxRecDepth 20000 in
theorem ggX5_setSeats_X5_within : GoodIn wsX5_setSeats wsX5_within := goodIn_r _ [6] (by decide +kernel) (by decide +kernel)
set_option maxRecDepth 20000 in
theorem gX5_setSeats_X5_within : GoodIn wsX5_setSeats (va_wsS RX5 68 yX5_within wsX5_within) := goodIn_app (goodIn_of _ (by decide +kernel)) ggX5_setSeats_X5_within
set_option maxRecDepth 20000 in
theorem ggX5_setSeats_X5_putSeats : GoodIn wsX5_setSeats wsX5_putSeats := goodIn_r _ [10, 11, 12, 13, 14, 15, 16, 17, 18, 19, 20, 21, 22, 23, 24, 25] (by decide +kernel) (by decide +kernel)
set_option maxRecDepth 20000 in
theorem gX5_setSeats_X5_putSeats : GoodIn wsX5_setSeats (wsV RX5 79 RX5 yX5_putSeats wsX5_putSeats) := goodIn_app (goodIn_of _ (by decide +kernel)) ggX5_setSeats_X5_putSeats
theorem dX5_setSeats_0 : decode cX5_setSeats 0 = .ok (.iload_n 1, 1) := by decide +kernel
theorem dX5_setSeats_1 : decode cX5_setSeats 1 = .ok (.iconst 0, 1) := by decide +kernel
theorem dX5_setSeats_2 : decode cX5_setSeats 2 = .ok (.bipush 10, 2) := by decide +kernel
theorem dX5_setSeats_4 : decode cX5_setSeats 4 = .ok (.invokestatic 68, 3) := by decide +kernel
theorem dX5_setSeats_7 : decode cX5_setSeats 7 = .ok (.ifCond .eq 23, 3) := by decide +kernel
theorem dX5_setSeats_10 : decode cX5_setSeats 10 = .ok (.iload_n 2, 1) := by decide +kernel
theorem dX5_setSeats_11 : decode cX5_setSeats 11 = .ok (.iconst 0, 1) := by decide +kernel
theorem dX5_setSeats_12 : decode cX5_setSeats 12 = .ok (.bipush 10, 2) := by decide +kernel
theorem dX5_setSeats_14 : decode cX5_setSeats 14 = .ok (.invokestatic 68, 3) := by decide +kernel
theorem dX5_setSeats_17 : decode cX5_setSeats 17 = .ok (.ifCond .eq 13, 3) := by decide +kernel
theorem dX5_setSeats_20 : decode cX5_setSeats 20 = .ok (.iload_n 3, 1) := by decide +kernel
theorem dX5_setSeats_21 : decode cX5_setSeats 21 = .ok (.iconst 0, 1) := by decide +kernel
theorem dX5_setSeats_22 : decode cX5_setSeats 22 = .ok (.bipush 10, 2) := by decide +kernel
theorem dX5_setSeats_24 : decode cX5_setSeats 24 = .ok (.invokestatic 68, 3) := by decide +kernel
theorem dX5_setSeats_27 : decode cX5_setSeats 27 = .ok (.ifCond .ne 13, 3) := by decide +kernel
theorem dX5_setSeats_30 : decode cX5_setSeats 30 = .ok (.new 72, 3) := by decide +kernel
theorem dX5_setSeats_33 : decode cX5_setSeats 33 = .ok (.dup, 1) := by decide +kernel
theorem dX5_setSeats_34 : decode cX5_setSeats 34 = .ok (.ldc 74, 2) := by decide +kernel
theorem dX5_setSeats_36 : decode cX5_setSeats 36 = .ok (.invokespecial 76, 3) := by decide +kernel
theorem dX5_setSeats_39 : decode cX5_setSeats 39 = .ok (.athrow, 1) := by decide +kernel
theorem dX5_setSeats_40 : decode cX5_setSeats 40 = .ok (.aload_n 0, 1) := by decide +kernel
theorem dX5_setSeats_41 : decode cX5_setSeats 41 = .ok (.iconst 0, 1) := by decide +kernel
theorem dX5_setSeats_42 : decode cX5_setSeats 42 = .ok (.iload_n 1, 1) := by decide +kernel
theorem dX5_setSeats_43 : decode cX5_setSeats 43 = .ok (.invokevirtual 79, 3) := by decide +kernel
theorem dX5_setSeats_46 : decode cX5_setSeats 46 = .ok (.aload_n 0, 1) := by decide +kernel
theorem dX5_setSeats_47 : decode cX5_setSeats 47 = .ok (.iconst 1, 1) := by decide +kernel
theorem dX5_setSeats_48 : decode cX5_setSeats 48 = .ok (.iload_n 2, 1) := by decide +kernel
theorem dX5_setSeats_49 : decode cX5_setSeats 49 = .ok (.invokevirtual 79, 3) := by decide +kernel
theorem dX5_setSeats_52 : decode cX5_setSeats 52 = .ok (.aload_n 0, 1) := by decide +kernel
theorem dX5_setSeats_53 : decode cX5_setSeats 53 = .ok (.iconst 2, 1) := by decide +kernel
theorem dX5_setSeats_54 : decode cX5_setSeats 54 = .ok (.iload_n 3, 1) := by decide +kernel
theorem dX5_setSeats_55 : decode cX5_setSeats 55 = .ok (.invokevirtual 79, 3) := by decide +kernel
theorem dX5_setSeats_58 : decode cX5_setSeats 58 = .ok (.return_, 1) := by decide +kernel
set_option maxRecDepth 20000 in
theorem ggX5_addProduct_X5_isLeg : GoodIn wsX5_addProduct wsX5_isLeg := goodIn_r _ [15, 16, 17, 14, 18] (by decide +kernel) (by decide +kernel)
set_option maxRecDepth 20000 in
theorem gX5_addProduct_X5_isLeg : GoodIn wsX5_addProduct (va_wsS RX5 83 yX5_isLeg wsX5_isLeg) := goodIn_app (goodIn_of _ (by decide +kernel)) ggX5_addProduct_X5_isLeg
set_option maxRecDepth 20000 in
theorem ggX5_addProduct_X5_within : GoodIn wsX5_addProduct wsX5_within := goodIn_r _ [18] (by decide +kernel) (by decide +kernel)
set_option maxRecDepth 20000 in
theorem gX5_addProduct_X5_within : GoodIn wsX5_addProduct (va_wsS RX5 68 yX5_within wsX5_within) := goodIn_app (goodIn_of _ (by decide +kernel)) ggX5_addProduct_X5_within
set_option maxRecDepth 20000 in
theorem ggX5_addProduct_X5_isOffered : GoodIn wsX5_addProduct wsX5_isOffered := goodIn_r _ [22, 23, 42, 43, 44, 45, 46, 47, 48, 49, 50, 51, 52, 53, 54, 55, 56, 57, 58, 59, 60, 61, 62] (by decide +kernel) (by decide +kernel)
set_option maxRecDepth 20000 in
theorem gX5_addProduct_X5_isOffered : GoodIn wsX5_addProduct (wsV RX5 94 RX5 yX5_isOffered wsX5_isOffered) := goodIn_app (goodIn_of _ (by decide +kernel)) ggX5_addProduct_X5_isOffered
set_option maxRecDepth 20000 in
theorem ggX5_addProduct_X2_init : GoodIn wsX5_addProduct wsX2_init := goodIn_r _ [25, 26, 27, 28, 29, 30, 31, 32, 33, 34, 35, 36, 56, 57, 58, 59, 60, 61, 62] (by decide +kernel) (by decide +kernel)
set_option maxRecDepth 20000 in
theorem gX5_addProduct_X2_init_n102 : GoodIn wsX5_addProduct (wsX2_init) := ggX5_addProduct_X2_init
set_option maxRecDepth 20000 in
theorem ggX5_addProduct_X5_offer : GoodIn wsX5_addProduct wsX5_offer := goodIn_r _ [40, 7, 23, 41, 42, 43, 44, 45, 46, 47, 48, 49, 50, 51, 52, 53, 54, 55, 56, 57, 58, 59, 60, 61, 62] (by decide +kernel) (by decide +kernel)
set_option maxRecDepth 20000 in
theorem gX5_addProduct_X5_offer : GoodIn wsX5_addProduct (wsV RX5 105 RX5 yX5_offer wsX5_offer) := goodIn_app (goodIn_of _ (by decide +kernel)) ggX5_addProduct_X5_offer
theorem dX5_addProduct_0 : decode cX5_addProduct 0 = .ok (.iload_n 1, 1) := by decide +kernel
theorem dX5_addProduct_1 : decode cX5_addProduct 1 = .ok (.invokestatic 83, 3) := by decide +kernel
theorem dX5_addProduct_4 : decode cX5_addProduct 4 = .ok (.ifCond .eq 10, 3) := by decide +kernel
theorem dX5_addProduct_7 : decode cX5_addProduct 7 = .ok (.iload_n 2, 1) := by decide +kernel
theorem dX5_addProduct_8 : decode cX5_addProduct 8 = .ok (.invokestatic 83, 3) := by decide +kernel
theorem dX5_addProduct_11 : decode cX5_addProduct 11 = .ok (.ifCond .ne 13, 3) := by decide +kernel
theorem dX5_addProduct_14 : decode cX5_addProduct 14 = .ok (.new 87, 3) := by decide +kernel
theorem dX5_addProduct_17 : decode cX5_addProduct 17 = .ok (.dup, 1) := by decide +kernel
theorem dX5_addProduct_18 : decode cX5_addProduct 18 = .ok (.ldc 89, 2) := by decide +kernel
theorem dX5_addProduct_20 : decode cX5_addProduct 20 = .ok (.invokespecial 91, 3) := by decide +kernel
theorem dX5_addProduct_23 : decode cX5_addProduct 23 = .ok (.athrow, 1) := by decide +kernel
theorem dX5_addProduct_24 : decode cX5_addProduct 24 = .ok (.iload_n 2, 1) := by decide +kernel
theorem dX5_addProduct_25 : decode cX5_addProduct 25 = .ok (.iload_n 1, 1) := by decide +kernel
theorem dX5_addProduct_26 : decode cX5_addProduct 26 = .ok (.if_icmp .lt 14, 3) := by decide +kernel
theorem dX5_addProduct_29 : decode cX5_addProduct 29 = .ok (.iload_n 3, 1) := by decide +kernel
theorem dX5_addProduct_30 : decode cX5_addProduct 30 = .ok (.iconst 1, 1) := by decide +kernel
theorem dX5_addProduct_31 : decode cX5_addProduct 31 = .ok (.sipush 1000, 3) := by decide +kernel
theorem dX5_addProduct_34 : decode cX5_addProduct 34 = .ok (.invokestatic 68, 3) := by decide +kernel
theorem dX5_addProduct_37 : decode cX5_addProduct 37 = .ok (.ifCond .ne 13, 3) := by decide +kernel
theorem dX5_addProduct_40 : decode cX5_addProduct 40 = .ok (.new 72, 3) := by decide +kernel
theorem dX5_addProduct_43 : decode cX5_addProduct 43 = .ok (.dup, 1) := by decide +kernel
theorem dX5_addProduct_44 : decode cX5_addProduct 44 = .ok (.ldc 92, 2) := by decide +kernel
theorem dX5_addProduct_46 : decode cX5_addProduct 46 = .ok (.invokespecial 76, 3) := by decide +kernel
theorem dX5_addProduct_49 : decode cX5_addProduct 49 = .ok (.athrow, 1) := by decide +kernel
theorem dX5_addProduct_50 : decode cX5_addProduct 50 = .ok (.aload_n 0, 1) := by decide +kernel
theorem dX5_addProduct_51 : decode cX5_addProduct 51 = .ok (.getfield 42, 3) := by decide +kernel
theorem dX5_addProduct_54 : decode cX5_addProduct 54 = .ok (.bipush 8, 2) := by decide +kernel
theorem dX5_addProduct_56 : decode cX5_addProduct 56 = .ok (.if_icmp .ge 13, 3) := by decide +kernel
theorem dX5_addProduct_59 : decode cX5_addProduct 59 = .ok (.aload_n 0, 1) := by decide +kernel
theorem dX5_addProduct_60 : decode cX5_addProduct 60 = .ok (.iload_n 1, 1) := by decide +kernel
theorem dX5_addProduct_61 : decode cX5_addProduct 61 = .ok (.iload_n 2, 1) := by decide +kernel
theorem dX5_addProduct_62 : decode cX5_addProduct 62 = .ok (.iload_n 3, 1) := by decide +kernel
theorem dX5_addProduct_63 : decode cX5_addProduct 63 = .ok (.invokevirtual 94, 3) := by decide +kernel
theorem dX5_addProduct_66 : decode cX5_addProduct 66 = .ok (.ifCond .eq 13, 3) := by decide +kernel
theorem dX5_addProduct_69 : decode cX5_addProduct 69 = .ok (.new 97, 3) := by decide +kernel
theorem dX5_addProduct_72 : decode cX5_addProduct 72 = .ok (.dup, 1) := by decide +kernel
theorem dX5_addProduct_73 : decode cX5_addProduct 73 = .ok (.ldc 99, 2) := by decide +kernel
theorem dX5_addProduct_75 : decode cX5_addProduct 75 = .ok (.invokespecial 101, 3) := by decide +kernel
theorem dX5_addProduct_78 : decode cX5_addProduct 78 = .ok (.athrow, 1) := by decide +kernel
theorem dX5_addProduct_79 : decode cX5_addProduct 79 = .ok (.aload_n 0, 1) := by decide +kernel
theorem dX5_addProduct_80 : decode cX5_addProduct 80 = .ok (.getfield 42, 3) := by decide +kernel
theorem dX5_addProduct_83 : decode cX5_addProduct 83 = .ok (.istore 4, 2) := by decide +kernel
theorem dX5_addProduct_85 : decode cX5_addProduct 85 = .ok (.aload_n 0, 1) := by decide +kernel
theorem dX5_addProduct_86 : decode cX5_addProduct 86 = .ok (.new 13, 3) := by decide +kernel
theorem dX5_addProduct_89 : decode cX5_addProduct 89 = .ok (.dup, 1) := by decide +kernel
theorem dX5_addProduct_90 : decode cX5_addProduct 90 = .ok (.iload_n 1, 1) := by decide +kernel
theorem dX5_addProduct_91 : decode cX5_addProduct 91 = .ok (.iload_n 2, 1) := by decide +kernel
theorem dX5_addProduct_92 : decode cX5_addProduct 92 = .ok (.iload_n 3, 1) := by decide +kernel
theorem dX5_addProduct_93 : decode cX5_addProduct 93 = .ok (.aload_n 0, 1) := by decide +kernel
theorem dX5_addProduct_94 : decode cX5_addProduct 94 = .ok (.getfield 49, 3) := by decide +kernel
theorem dX5_addProduct_97 : decode cX5_addProduct 97 = .ok (.invokespecial 102, 3) := by decide +kernel
theorem dX5_addProduct_100 : decode cX5_addProduct 100 = .ok (.invokevirtual 105, 3) := by decide +kernel
theorem dX5_addProduct_103 : decode cX5_addProduct 103 = .ok (.iload 4, 2) := by decide +kernel
theorem dX5_addProduct_105 : decode cX5_addProduct 105 = .ok (.ireturn, 1) := by decide +kernel
set_option maxRecDepth 20000 in
theorem ggX5_setExpected_X5_productAt : GoodIn wsX5_setExpected wsX5_productAt := goodIn_r _ [9, 10, 21, 22, 23, 24, 25, 26, 27, 28, 29, 30, 31, 32, 33, 34] (by decide +kernel) (by decide +kernel)
set_option maxRecDepth 20000 in
theorem gX5_setExpected_X5_productAt : GoodIn wsX5_setExpected (wsV RX5 109 RX5 yX5_productAt wsX5_productAt) := goodIn_app (goodIn_of _ (by decide +kernel)) ggX5_setExpected_X5_productAt
set_option maxRecDepth 20000 in
theorem ggX5_setExpected_X5_within : GoodIn wsX5_setExpected wsX5_within := goodIn_r _ [13] (by decide +kernel) (by decide +kernel)
set_option maxRecDepth 20000 in
theorem gX5_setExpected_X5_within : GoodIn wsX5_setExpected (va_wsS RX5 68 yX5_within wsX5_within) := goodIn_app (goodIn_of _ (by decide +kernel)) ggX5_setExpected_X5_within
theorem dX5_setExpected_0 : decode cX5_setExpected 0 = .ok (.aload_n 0, 1) := by decide +kernel
theorem dX5_setExpected_1 : decode cX5_setExpected 1 = .ok (.iload_n 1, 1) := by decide +kernel
theorem dX5_setExpected_2 : decode cX5_setExpected 2 = .ok (.invokevirtual 109, 3) := by decide +kernel
theorem dX5_setExpected_5 : decode cX5_setExpected 5 = .ok (.astore_n 3, 1) := by decide +kernel
theorem dX5_setExpected_6 : decode cX5_setExpected 6 = .ok (.aload_n 3, 1) := by decide +kernel
theorem dX5_setExpected_7 : decode cX5_setExpected 7 = .ok (.ifnonnull 13, 3) := by decide +kernel
theorem dX5_setExpected_10 : decode cX5_setExpected 10 = .ok (.new 87, 3) := by decide +kernel
theorem dX5_setExpected_13 : decode cX5_setExpected 13 = .ok (.dup, 1) := by decide +kernel
theorem dX5_setExpected_14 : decode cX5_setExpected 14 = .ok (.ldc 113, 2) := by decide +kernel
theorem dX5_setExpected_16 : decode cX5_setExpected 16 = .ok (.invokespecial 91, 3) := by decide +kernel
theorem dX5_setExpected_19 : decode cX5_setExpected 19 = .ok (.athrow, 1) := by decide +kernel
theorem dX5_setExpected_20 : decode cX5_setExpected 20 = .ok (.iload_n 2, 1) := by decide +kernel
theorem dX5_setExpected_21 : decode cX5_setExpected 21 = .ok (.iconst 0, 1) := by decide +kernel
theorem dX5_setExpected_22 : decode cX5_setExpected 22 = .ok (.bipush 20, 2) := by decide +kernel
theorem dX5_setExpected_24 : decode cX5_setExpected 24 = .ok (.invokestatic 68, 3) := by decide +kernel
theorem dX5_setExpected_27 : decode cX5_setExpected 27 = .ok (.ifCond .ne 13, 3) := by decide +kernel
theorem dX5_setExpected_30 : decode cX5_setExpected 30 = .ok (.new 72, 3) := by decide +kernel
theorem dX5_setExpected_33 : decode cX5_setExpected 33 = .ok (.dup, 1) := by decide +kernel
theorem dX5_setExpected_34 : decode cX5_setExpected 34 = .ok (.ldc 115, 2) := by decide +kernel
theorem dX5_setExpected_36 : decode cX5_setExpected 36 = .ok (.invokespecial 76, 3) := by decide +kernel
theorem dX5_setExpected_39 : decode cX5_setExpected 39 = .ok (.athrow, 1) := by decide +kernel
theorem dX5_setExpected_40 : decode cX5_setExpected 40 = .ok (.aload_n 3, 1) := by decide +kernel
theorem dX5_setExpected_41 : decode cX5_setExpected 41 = .ok (.getfield 117, 3) := by decide +kernel
theorem dX5_setExpected_44 : decode cX5_setExpected 44 = .ok (.istore 4, 2) := by decide +kernel
theorem dX5_setExpected_46 : decode cX5_setExpected 46 = .ok (.aload_n 3, 1) := by decide +kernel
theorem dX5_setExpected_47 : decode cX5_setExpected 47 = .ok (.iload_n 2, 1) := by decide +kernel
theorem dX5_setExpected_48 : decode cX5_setExpected 48 = .ok (.putfield 117, 3) := by decide +kernel
theorem dX5_setExpected_51 : decode cX5_setExpected 51 = .ok (.iload 4, 2) := by decide +kernel
theorem dX5_setExpected_53 : decode cX5_setExpected 53 = .ok (.ireturn, 1) := by decide +kernel
set_option maxRecDepth 20000 in
theorem ggX5_setRate_X5_within : GoodIn wsX5_setRate wsX5_within := goodIn_r _ [7] (by decide +kernel) (by decide +kernel)
set_option maxRecDepth 20000 in
theorem gX5_setRate_X5_within : GoodIn wsX5_setRate (va_wsS RX5 68 yX5_within wsX5_within) := goodIn_app (goodIn_of _ (by decide +kernel)) ggX5_setRate_X5_within
theorem dX5_setRate_0 : decode cX5_setRate 0 = .ok (.iload_n 1, 1) := by decide +kernel
theorem dX5_setRate_1 : decode cX5_setRate 1 = .ok (.bipush 50, 2) := by decide +kernel
theorem dX5_setRate_3 : decode cX5_setRate 3 = .ok (.bipush 100, 2) := by decide +kernel
theorem dX5_setRate_5 : decode cX5_setRate 5 = .ok (.invokestatic 68, 3) := by decide +kernel
theorem dX5_setRate_8 : decode cX5_setRate 8 = .ok (.ifCond .ne 13, 3) := by decide +kernel
theorem dX5_setRate_11 : decode cX5_setRate 11 = .ok (.new 72, 3) := by decide +kernel
theorem dX5_setRate_14 : decode cX5_setRate 14 = .ok (.dup, 1) := by decide +kernel
theorem dX5_setRate_15 : decode cX5_setRate 15 = .ok (.ldc 120, 2) := by decide +kernel
theorem dX5_setRate_17 : decode cX5_setRate 17 = .ok (.invokespecial 76, 3) := by decide +kernel
theorem dX5_setRate_20 : decode cX5_setRate 20 = .ok (.athrow, 1) := by decide +kernel
theorem dX5_setRate_21 : decode cX5_setRate 21 = .ok (.aload_n 0, 1) := by decide +kernel
theorem dX5_setRate_22 : decode cX5_setRate 22 = .ok (.getfield 52, 3) := by decide +kernel
theorem dX5_setRate_25 : decode cX5_setRate 25 = .ok (.istore_n 2, 1) := by decide +kernel
theorem dX5_setRate_26 : decode cX5_setRate 26 = .ok (.aload_n 0, 1) := by decide +kernel
theorem dX5_setRate_27 : decode cX5_setRate 27 = .ok (.iload_n 1, 1) := by decide +kernel
theorem dX5_setRate_28 : decode cX5_setRate 28 = .ok (.putfield 52, 3) := by decide +kernel
theorem dX5_setRate_31 : decode cX5_setRate 31 = .ok (.iload_n 2, 1) := by decide +kernel
theorem dX5_setRate_32 : decode cX5_setRate 32 = .ok (.ireturn, 1) := by decide +kernel
set_option maxRecDepth 20000 in
theorem ggX5_ask_X5_productAt : GoodIn wsX5_ask wsX5_productAt := goodIn_r _ [13, 14, 150, 151, 152, 153, 154, 155, 156, 157, 158, 159, 160, 161, 162, 163] (by decide +kernel) (by decide +kernel)
set_option maxRecDepth 20000 in
theorem gX5_ask_X5_productAt : GoodIn wsX5_ask (wsV RX5 109 RX5 yX5_productAt wsX5_productAt) := goodIn_app (goodIn_of _ (by decide +kernel)) ggX5_ask_X5_productAt
set_option maxRecDepth 20000 in
theorem ggX5_ask_X5_isFull : GoodIn wsX5_ask wsX5_isFull := goodIn_r _ [18, 19, 20, 21, 12, 22, 5, 23, 24, 25, 26, 27, 28, 8, 29, 30, 31, 32, 33, 34, 35, 36, 37, 38, 39, 40, 41, 42, 43, 44, 164, 165, 166, 167, 168, 169, 170, 150, 151, 152, 153, 154, 155, 156, 157, 158, 159, 160, 161, 162, 163, 171, 172, 173, 174, 175] (by decide +kernel) (by decide +kernel)
set_option maxRecDepth 20000 in
theorem gX5_ask_X5_isFull : GoodIn wsX5_ask (wsV RX5 127 RX5 yX5_isFull wsX5_isFull) := goodIn_app (goodIn_of _ (by decide +kernel)) ggX5_ask_X5_isFull
set_option maxRecDepth 20000 in
theorem ggX5_ask_X5_refuse : GoodIn wsX5_ask wsX5_refuse := goodIn_r _ [48, 49, 50, 51, 150, 151, 152, 153, 154, 155, 156, 157, 158, 159, 160, 161, 162, 163] (by decide +kernel) (by decide +kernel)
set_option maxRecDepth 20000 in
theorem gX5_ask_X5_refuse : GoodIn wsX5_ask (wsV RX5 131 RX5 yX5_refuse wsX5_refuse) := goodIn_app (goodIn_of _ (by decide +kernel)) ggX5_ask_X5_refuse
set_option maxRecDepth 20000 in
theorem ggX5_ask_X5_isProtected : GoodIn wsX5_ask wsX5_isProtected := goodIn_r _ [55, 35, 36, 37, 12, 38, 39, 40, 41, 42, 43, 44, 19, 20, 21, 22, 5, 23, 24, 25, 26, 27, 28, 8, 29, 30, 31, 32, 33, 34, 56, 57, 58, 59, 14, 60, 61, 62, 63, 64, 65, 66, 67, 68, 69, 70, 71, 164, 165, 166, 167, 168, 169, 170, 150, 151, 152, 153, 154, 155, 156, 157, 158, 159, 160, 161, 162, 163, 171, 172, 173, 174, 175] (by decide +kernel) (by decide +kernel)
set_option maxRecDepth 20000 in
theorem gX5_ask_X5_isProtected : GoodIn wsX5_ask (wsV RX5 135 RX5 yX5_isProtected wsX5_isProtected) := goodIn_app (goodIn_of _ (by decide +kernel)) ggX5_ask_X5_isProtected
set_option maxRecDepth 20000 in
theorem ggX5_ask_X5_bidsOver : GoodIn wsX5_ask wsX5_bidsOver := goodIn_r _ [75, 76, 77, 78, 12, 79, 80, 81, 82, 83, 84, 85, 86, 87, 88, 89, 90, 91, 92, 93, 94, 95, 96, 97, 98, 99, 62, 100, 101, 102, 103, 104, 105, 106, 107, 108, 109, 110, 111, 112, 113, 114, 115, 116, 117, 118, 40, 41, 42, 43, 44, 19, 20, 21, 22, 5, 23, 24, 25, 26, 27, 28, 8, 29, 30, 31, 32, 33, 34, 119, 120, 121, 122, 123, 124, 125, 126, 127, 128, 129, 130, 131, 132, 133, 134, 135, 136, 137, 138, 139, 150, 151, 152, 153, 154, 155, 156, 157, 158, 159, 160, 161, 162, 163, 176, 177, 178, 179, 180, 181, 182, 183, 164, 165, 166, 167, 168, 169, 170, 171, 172, 173, 174, 175] (by decide +kernel) (by decide +kernel)
set_option maxRecDepth 20000 in
theorem gX5_ask_X5_bidsOver : GoodIn wsX5_ask (wsV RX5 147 RX5 yX5_bidsOver wsX5_bidsOver) := goodIn_app (goodIn_of _ (by decide +kernel)) ggX5_ask_X5_bidsOver
set_option maxRecDepth 20000 in
theorem ggX5_ask_X0_init : GoodIn wsX5_ask wsX0_init := goodIn_r _ [141, 142, 143, 144, 31, 32, 33, 34, 145, 171, 172, 173, 174, 175] (by decide +kernel) (by decide +kernel)
set_option maxRecDepth 20000 in
theorem gX5_ask_X0_init_n151 : GoodIn wsX5_ask (wsX0_init) := ggX5_ask_X0_init
set_option maxRecDepth 20000 in
theorem ggX5_ask_X5_enter : GoodIn wsX5_ask wsX5_enter := goodIn_r _ [149, 5, 27, 150, 151, 152, 153, 154, 155, 156, 157, 158, 159, 160, 161, 162, 163] (by decide +kernel) (by decide +kernel)
set_option maxRecDepth 20000 in
theorem gX5_ask_X5_enter : GoodIn wsX5_ask (wsV RX5 152 RX5 yX5_enter wsX5_enter) := goodIn_app (goodIn_of _ (by decide +kernel)) ggX5_ask_X5_enter
theorem dX5_ask_0 : decode cX5_ask 0 = .ok (.aload_n 0, 1) := by decide +kernel
theorem dX5_ask_1 : decode cX5_ask 1 = .ok (.iload_n 1, 1) := by decide +kernel
theorem dX5_ask_2 : decode cX5_ask 2 = .ok (.invokevirtual 109, 3) := by decide +kernel
theorem dX5_ask_5 : decode cX5_ask 5 = .ok (.astore_n 2, 1) := by decide +kernel
theorem dX5_ask_6 : decode cX5_ask 6 = .ok (.aload_n 2, 1) := by decide +kernel
theorem dX5_ask_7 : decode cX5_ask 7 = .ok (.ifnonnull 13, 3) := by decide +kernel
theorem dX5_ask_10 : decode cX5_ask 10 = .ok (.new 87, 3) := by decide +kernel
theorem dX5_ask_13 : decode cX5_ask 13 = .ok (.dup, 1) := by decide +kernel
theorem dX5_ask_14 : decode cX5_ask 14 = .ok (.ldc 113, 2) := by decide +kernel
theorem dX5_ask_16 : decode cX5_ask 16 = .ok (.invokespecial 91, 3) := by decide +kernel
theorem dX5_ask_19 : decode cX5_ask 19 = .ok (.athrow, 1) := by decide +kernel
theorem dX5_ask_20 : decode cX5_ask 20 = .ok (.aload_n 0, 1) := by decide +kernel
theorem dX5_ask_21 : decode cX5_ask 21 = .ok (.getfield 46, 3) := by decide +kernel
theorem dX5_ask_24 : decode cX5_ask 24 = .ok (.bipush 60, 2) := by decide +kernel
theorem dX5_ask_26 : decode cX5_ask 26 = .ok (.if_icmp .lt 13, 3) := by decide +kernel
theorem dX5_ask_29 : decode cX5_ask 29 = .ok (.new 97, 3) := by decide +kernel
theorem dX5_ask_32 : decode cX5_ask 32 = .ok (.dup, 1) := by decide +kernel
theorem dX5_ask_33 : decode cX5_ask 33 = .ok (.ldc 122, 2) := by decide +kernel
theorem dX5_ask_35 : decode cX5_ask 35 = .ok (.invokespecial 101, 3) := by decide +kernel
theorem dX5_ask_38 : decode cX5_ask 38 = .ok (.athrow, 1) := by decide +kernel
theorem dX5_ask_39 : decode cX5_ask 39 = .ok (.aload_n 2, 1) := by decide +kernel
theorem dX5_ask_40 : decode cX5_ask 40 = .ok (.dup, 1) := by decide +kernel
theorem dX5_ask_41 : decode cX5_ask 41 = .ok (.getfield 124, 3) := by decide +kernel
theorem dX5_ask_44 : decode cX5_ask 44 = .ok (.iconst 1, 1) := by decide +kernel
theorem dX5_ask_45 : decode cX5_ask 45 = .ok (.iadd, 1) := by decide +kernel
theorem dX5_ask_46 : decode cX5_ask 46 = .ok (.putfield 124, 3) := by decide +kernel
theorem dX5_ask_49 : decode cX5_ask 49 = .ok (.aload_n 0, 1) := by decide +kernel
theorem dX5_ask_50 : decode cX5_ask 50 = .ok (.aload_n 2, 1) := by decide +kernel
theorem dX5_ask_51 : decode cX5_ask 51 = .ok (.invokevirtual 127, 3) := by decide +kernel
theorem dX5_ask_54 : decode cX5_ask 54 = .ok (.ifCond .eq 9, 3) := by decide +kernel
theorem dX5_ask_57 : decode cX5_ask 57 = .ok (.aload_n 0, 1) := by decide +kernel
theorem dX5_ask_58 : decode cX5_ask 58 = .ok (.iconst (-1), 1) := by decide +kernel
theorem dX5_ask_59 : decode cX5_ask 59 = .ok (.invokevirtual 131, 3) := by decide +kernel
theorem dX5_ask_62 : decode cX5_ask 62 = .ok (.ireturn, 1) := by decide +kernel
theorem dX5_ask_63 : decode cX5_ask 63 = .ok (.aload_n 0, 1) := by decide +kernel
theorem dX5_ask_64 : decode cX5_ask 64 = .ok (.aload_n 2, 1) := by decide +kernel
theorem dX5_ask_65 : decode cX5_ask 65 = .ok (.invokevirtual 135, 3) := by decide +kernel
theorem dX5_ask_68 : decode cX5_ask 68 = .ok (.ifCond .eq 10, 3) := by decide +kernel
