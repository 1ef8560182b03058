theorem wsL_law_x0 : ∀ w ∈ (vx_atS RX5 141 "java/lang/IndexOutOfBoundsException" ["java/lang/RuntimeException", "java/lang/Exception"]).filter goodWord, w ∈ lw_tbl := by decide +kernel
theorem wsL_law_in : ∀ w ∈ wsL_law, w ∈ lw_tbl := fun w h => (List.mem_append.mp h).elim (fun h => wsL_law_in0 w h) (fun h => wsL_law_x0 w h)
theorem inlX0 : ∀ w ∈ wsX00, w ∈ wsL_law := fun _ h => List.mem_append_left _ (List.mem_append_left _ (List.mem_append_left _ (List.mem_append_left _ (List.mem_append_right _ h))))
theorem inX0 : ∀ w ∈ wsX00, w ∈ lw_tbl := fun w h => wsL_law_in w (inlX0 w h)
theorem inlX1 : ∀ w ∈ wsX10, w ∈ wsL_law := fun _ h => List.mem_append_left _ (List.mem_append_left _ (List.mem_append_left _ (List.mem_append_left _ (List.mem_append_left _ (List.mem_append_right _ h)))))
theorem inX1 : ∀ w ∈ wsX10, w ∈ lw_tbl := fun w h => wsL_law_in w (inlX1 w h)
theorem inlX2 : ∀ w ∈ wsX20, w ∈ wsL_law := fun _ h => List.mem_append_left _ (List.mem_append_left _ (List.mem_append_right _ h))
theorem inX2 : ∀ w ∈ wsX20, w ∈ lw_tbl := fun w h => wsL_law_in w (inlX2 w h)
theorem inlX3 : ∀ w ∈ wsX30, w ∈ wsL_law := fun _ h => List.mem_append_left _ (List.mem_append_left _ (List.mem_append_left _ (List.mem_append_left _ (List.mem_append_left _ (List.mem_append_left _ (List.mem_append_right _ h))))))
theorem inX3 : ∀ w ∈ wsX30, w ∈ lw_tbl := fun w h => wsL_law_in w (inlX3 w h)
theorem inlX4 : ∀ w ∈ wsX40, w ∈ wsL_law := fun _ h => List.mem_append_left _ (List.mem_append_left _ (List.mem_append_left _ (List.mem_append_right _ h)))
theorem inX4 : ∀ w ∈ wsX40, w ∈ lw_tbl := fun w h => wsL_law_in w (inlX4 w h)
theorem inlX5 : ∀ w ∈ wsX50, w ∈ wsL_law := fun _ h => List.mem_append_left _ (List.mem_append_left _ (List.mem_append_left _ (List.mem_append_left _ (List.mem_append_left _ (List.mem_append_left _ (List.mem_append_left _ (List.mem_append_left _ (List.mem_append_right _ h))))))))
theorem inX5 : ∀ w ∈ wsX50, w ∈ lw_tbl := fun w h => wsL_law_in w (inlX5 w h)
theorem inlX6 : ∀ w ∈ wsX60, w ∈ wsL_law := fun _ h => List.mem_append_left _ (List.mem_append_left _ (List.mem_append_left _ (List.mem_append_left _ (List.mem_append_left _ (List.mem_append_left _ (List.mem_append_left _ (List.mem_append_right _ h)))))))
theorem inX6 : ∀ w ∈ wsX60, w ∈ lw_tbl := fun w h => wsL_law_in w (inlX6 w h)
theorem inJ9 : ∀ w ∈ wsJ90, w ∈ lw_tbl := by decide +kernel
theorem inJ0 : ∀ w ∈ wsJ00, w ∈ lw_tbl := by decide +kernel
theorem inJ7 : ∀ w ∈ wsJ70, w ∈ lw_tbl := by decide +kernel
set_option maxRecDepth 20000 in
theorem ggX0_init_X2_init : GoodIn wsX0_init wsX2_init := goodIn_r _ [10, 11, 2, 3, 12, 13, 14, 15, 16, 17, 18] (by decide +kernel) (by decide +kernel)
set_option maxRecDepth 20000 in
theorem gX0_init_X2_init : GoodIn wsX0_init (wsX2_init) := ggX0_init_X2_init
theorem dX0_init_0 : decode cX0_init 0 = .ok (.aload_n 0, 1) := by decide +kernel
theorem dX0_init_1 : decode cX0_init 1 = .ok (.invokespecial 3, 3) := by decide +kernel
theorem dX0_init_4 : decode cX0_init 4 = .ok (.aload_n 0, 1) := by decide +kernel
theorem dX0_init_5 : decode cX0_init 5 = .ok (.new 9, 3) := by decide +kernel
theorem dX0_init_8 : decode cX0_init 8 = .ok (.dup, 1) := by decide +kernel
theorem dX0_init_9 : decode cX0_init 9 = .ok (.iconst 1, 1) := by decide +kernel
theorem dX0_init_10 : decode cX0_init 10 = .ok (.sipush 300, 3) := by decide +kernel
theorem dX0_init_13 : decode cX0_init 13 = .ok (.invokespecial 11, 3) := by decide +kernel
theorem dX0_init_16 : decode cX0_init 16 = .ok (.putfield 14, 3) := by decide +kernel
theorem dX0_init_19 : decode cX0_init 19 = .ok (.return_, 1) := by decide +kernel
set_option maxRecDepth 20000 in
theorem ggX0_write_X2_add : GoodIn wsX0_write wsX2_add := goodIn_r _ [6, 7, 8, 9, 11, 12, 13] (by decide +kernel) (by decide +kernel)
set_option maxRecDepth 20000 in
theorem gX0_write_X2_add : GoodIn wsX0_write (wsV RX0 20 RX2 yX2_add wsX2_add) := goodIn_app (goodIn_of _ (by decide +kernel)) ggX0_write_X2_add
theorem dX0_write_0 : decode cX0_write 0 = .ok (.aload_n 0, 1) := by decide +kernel
theorem dX0_write_1 : decode cX0_write 1 = .ok (.getfield 14, 3) := by decide +kernel
theorem dX0_write_4 : decode cX0_write 4 = .ok (.iconst 0, 1) := by decide +kernel
theorem dX0_write_5 : decode cX0_write 5 = .ok (.bipush 100, 2) := by decide +kernel
theorem dX0_write_7 : decode cX0_write 7 = .ok (.iload_n 1, 1) := by decide +kernel
theorem dX0_write_8 : decode cX0_write 8 = .ok (.imul, 1) := by decide +kernel
theorem dX0_write_9 : decode cX0_write 9 = .ok (.iload_n 2, 1) := by decide +kernel
theorem dX0_write_10 : decode cX0_write 10 = .ok (.iadd, 1) := by decide +kernel
theorem dX0_write_11 : decode cX0_write 11 = .ok (.invokevirtual 20, 3) := by decide +kernel
theorem dX0_write_14 : decode cX0_write 14 = .ok (.pop, 1) := by decide +kernel
theorem dX0_write_15 : decode cX0_write 15 = .ok (.return_, 1) := by decide +kernel
theorem dX1_init_0 : decode cX1_init 0 = .ok (.aload_n 0, 1) := by decide +kernel
theorem dX1_init_1 : decode cX1_init 1 = .ok (.invokespecial 3, 3) := by decide +kernel
theorem dX1_init_4 : decode cX1_init 4 = .ok (.aload_n 0, 1) := by decide +kernel
theorem dX1_init_5 : decode cX1_init 5 = .ok (.sipush 144, 3) := by decide +kernel
theorem dX1_init_8 : decode cX1_init 8 = .ok (.newarray .int, 2) := by decide +kernel
theorem dX1_init_10 : decode cX1_init 10 = .ok (.putfield 9, 3) := by decide +kernel
theorem dX1_init_13 : decode cX1_init 13 = .ok (.aload_n 0, 1) := by decide +kernel
theorem dX1_init_14 : decode cX1_init 14 = .ok (.sipush 144, 3) := by decide +kernel
theorem dX1_init_17 : decode cX1_init 17 = .ok (.newarray .int, 2) := by decide +kernel
theorem dX1_init_19 : decode cX1_init 19 = .ok (.putfield 15, 3) := by decide +kernel
theorem dX1_init_22 : decode cX1_init 22 = .ok (.return_, 1) := by decide +kernel
theorem dX1_way_0 : decode cX1_way 0 = .ok (.iload_n 0, 1) := by decide +kernel
theorem dX1_way_1 : decode cX1_way 1 = .ok (.bipush 12, 2) := by decide +kernel
theorem dX1_way_3 : decode cX1_way 3 = .ok (.imul, 1) := by decide +kernel
theorem dX1_way_4 : decode cX1_way 4 = .ok (.iload_n 1, 1) := by decide +kernel
theorem dX1_way_5 : decode cX1_way 5 = .ok (.iadd, 1) := by decide +kernel
theorem dX1_way_6 : decode cX1_way 6 = .ok (.ireturn, 1) := by decide +kernel
theorem dX1_isWay_0 : decode cX1_isWay 0 = .ok (.iload_n 1, 1) := by decide +kernel
theorem dX1_isWay_1 : decode cX1_isWay 1 = .ok (.ifCond .lt 25, 3) := by decide +kernel
theorem dX1_isWay_4 : decode cX1_isWay 4 = .ok (.iload_n 1, 1) := by decide +kernel
theorem dX1_isWay_5 : decode cX1_isWay 5 = .ok (.aload_n 0, 1) := by decide +kernel
theorem dX1_isWay_6 : decode cX1_isWay 6 = .ok (.getfield 9, 3) := by decide +kernel
theorem dX1_isWay_9 : decode cX1_isWay 9 = .ok (.arraylength, 1) := by decide +kernel
theorem dX1_isWay_10 : decode cX1_isWay 10 = .ok (.if_icmp .ge 16, 3) := by decide +kernel
theorem dX1_isWay_13 : decode cX1_isWay 13 = .ok (.iload_n 1, 1) := by decide +kernel
theorem dX1_isWay_14 : decode cX1_isWay 14 = .ok (.aload_n 0, 1) := by decide +kernel
theorem dX1_isWay_15 : decode cX1_isWay 15 = .ok (.getfield 15, 3) := by decide +kernel
theorem dX1_isWay_18 : decode cX1_isWay 18 = .ok (.arraylength, 1) := by decide +kernel
theorem dX1_isWay_19 : decode cX1_isWay 19 = .ok (.if_icmp .ge 7, 3) := by decide +kernel
theorem dX1_isWay_22 : decode cX1_isWay 22 = .ok (.iconst 1, 1) := by decide +kernel
theorem dX1_isWay_23 : decode cX1_isWay 23 = .ok (.goto 4, 3) := by decide +kernel
theorem dX1_isWay_26 : decode cX1_isWay 26 = .ok (.iconst 0, 1) := by decide +kernel
theorem dX1_isWay_27 : decode cX1_isWay 27 = .ok (.ireturn, 1) := by decide +kernel
set_option maxRecDepth 20000 in
theorem ggX1_countThere_X1_isWay : GoodIn wsX1_countThere wsX1_isWay := goodIn_r _ [6, 1, 7, 8, 9, 10] (by decide +kernel) (by decide +kernel)
set_option maxRecDepth 20000 in
theorem gX1_countThere_X1_isWay : GoodIn wsX1_countThere (wsV RX1 18 RX1 yX1_isWay wsX1_isWay) := goodIn_app (goodIn_of _ (by decide +kernel)) ggX1_countThere_X1_isWay
theorem dX1_countThere_0 : decode cX1_countThere 0 = .ok (.aload_n 0, 1) := by decide +kernel
theorem dX1_countThere_1 : decode cX1_countThere 1 = .ok (.iload_n 1, 1) := by decide +kernel
theorem dX1_countThere_2 : decode cX1_countThere 2 = .ok (.invokevirtual 18, 3) := by decide +kernel
theorem dX1_countThere_5 : decode cX1_countThere 5 = .ok (.ifCond .eq 12, 3) := by decide +kernel
theorem dX1_countThere_8 : decode cX1_countThere 8 = .ok (.aload_n 0, 1) := by decide +kernel
theorem dX1_countThere_9 : decode cX1_countThere 9 = .ok (.getfield 9, 3) := by decide +kernel
theorem dX1_countThere_12 : decode cX1_countThere 12 = .ok (.iload_n 1, 1) := by decide +kernel
theorem dX1_countThere_13 : decode cX1_countThere 13 = .ok (.iaload, 1) := by decide +kernel
theorem dX1_countThere_14 : decode cX1_countThere 14 = .ok (.goto 4, 3) := by decide +kernel
theorem dX1_countThere_17 : decode cX1_countThere 17 = .ok (.iconst 0, 1) := by decide +kernel
theorem dX1_countThere_18 : decode cX1_countThere 18 = .ok (.ireturn, 1) := by decide +kernel
set_option maxRecDepth 20000 in
theorem ggX1_send_X1_isWay : GoodIn wsX1_send wsX1_isWay := goodIn_r _ [8, 3, 2, 9, 10, 11] (by decide +kernel) (by decide +kernel)
set_option maxRecDepth 20000 in
theorem gX1_send_X1_isWay : GoodIn wsX1_send (wsV RX1 18 RX1 yX1_isWay wsX1_isWay) := goodIn_app (goodIn_of _ (by decide +kernel)) ggX1_send_X1_isWay
theorem dX1_send_0 : decode cX1_send 0 = .ok (.aload_n 0, 1) := by decide +kernel
theorem dX1_send_1 : decode cX1_send 1 = .ok (.iload_n 1, 1) := by decide +kernel
theorem dX1_send_2 : decode cX1_send 2 = .ok (.invokevirtual 18, 3) := by decide +kernel
theorem dX1_send_5 : decode cX1_send 5 = .ok (.ifCond .ne 4, 3) := by decide +kernel
theorem dX1_send_8 : decode cX1_send 8 = .ok (.return_, 1) := by decide +kernel
theorem dX1_send_9 : decode cX1_send 9 = .ok (.aload_n 0, 1) := by decide +kernel
theorem dX1_send_10 : decode cX1_send 10 = .ok (.getfield 22, 3) := by decide +kernel
theorem dX1_send_13 : decode cX1_send 13 = .ok (.ifCond .le 26, 3) := by decide +kernel
theorem dX1_send_16 : decode cX1_send 16 = .ok (.aload_n 0, 1) := by decide +kernel
theorem dX1_send_17 : decode cX1_send 17 = .ok (.dup, 1) := by decide +kernel
theorem dX1_send_18 : decode cX1_send 18 = .ok (.getfield 22, 3) := by decide +kernel
theorem dX1_send_21 : decode cX1_send 21 = .ok (.iconst 1, 1) := by decide +kernel
theorem dX1_send_22 : decode cX1_send 22 = .ok (.isub, 1) := by decide +kernel
theorem dX1_send_23 : decode cX1_send 23 = .ok (.putfield 22, 3) := by decide +kernel
theorem dX1_send_26 : decode cX1_send 26 = .ok (.aload_n 0, 1) := by decide +kernel
theorem dX1_send_27 : decode cX1_send 27 = .ok (.getfield 15, 3) := by decide +kernel
theorem dX1_send_30 : decode cX1_send 30 = .ok (.iload_n 1, 1) := by decide +kernel
theorem dX1_send_31 : decode cX1_send 31 = .ok (.dup2, 1) := by decide +kernel
theorem dX1_send_32 : decode cX1_send 32 = .ok (.iaload, 1) := by decide +kernel
theorem dX1_send_33 : decode cX1_send 33 = .ok (.iconst 1, 1) := by decide +kernel
theorem dX1_send_34 : decode cX1_send 34 = .ok (.iadd, 1) := by decide +kernel
theorem dX1_send_35 : decode cX1_send 35 = .ok (.iastore, 1) := by decide +kernel
theorem dX1_send_36 : decode cX1_send 36 = .ok (.goto 13, 3) := by decide +kernel
theorem dX1_send_39 : decode cX1_send 39 = .ok (.aload_n 0, 1) := by decide +kernel
theorem dX1_send_40 : decode cX1_send 40 = .ok (.getfield 9, 3) := by decide +kernel
theorem dX1_send_43 : decode cX1_send 43 = .ok (.iload_n 1, 1) := by decide +kernel
theorem dX1_send_44 : decode cX1_send 44 = .ok (.dup2, 1) := by decide +kernel
theorem dX1_send_45 : decode cX1_send 45 = .ok (.iaload, 1) := by decide +kernel
theorem dX1_send_46 : decode cX1_send 46 = .ok (.iconst 1, 1) := by decide +kernel
theorem dX1_send_47 : decode cX1_send 47 = .ok (.iadd, 1) := by decide +kernel
theorem dX1_send_48 : decode cX1_send 48 = .ok (.iastore, 1) := by decide +kernel
theorem dX1_send_49 : decode cX1_send 49 = .ok (.return_, 1) := by decide +kernel
set_option maxRecDepth 20000 in
theorem ggX1_take_X1_isWay : GoodIn wsX1_take wsX1_isWay := goodIn_r _ [6, 1, 7, 8, 9, 10] (by decide +kernel) (by decide +kernel)
set_option maxRecDepth 20000 in
theorem gX1_take_X1_isWay : GoodIn wsX1_take (wsV RX1 18 RX1 yX1_isWay wsX1_isWay) := goodIn_app (goodIn_of _ (by decide +kernel)) ggX1_take_X1_isWay
theorem dX1_take_0 : decode cX1_take 0 = .ok (.aload_n 0, 1) := by decide +kernel
theorem dX1_take_1 : decode cX1_take 1 = .ok (.iload_n 1, 1) := by decide +kernel
theorem dX1_take_2 : decode cX1_take 2 = .ok (.invokevirtual 18, 3) := by decide +kernel
theorem dX1_take_5 : decode cX1_take 5 = .ok (.ifCond .eq 12, 3) := by decide +kernel
theorem dX1_take_8 : decode cX1_take 8 = .ok (.aload_n 0, 1) := by decide +kernel
theorem dX1_take_9 : decode cX1_take 9 = .ok (.getfield 9, 3) := by decide +kernel
theorem dX1_take_12 : decode cX1_take 12 = .ok (.iload_n 1, 1) := by decide +kernel
theorem dX1_take_13 : decode cX1_take 13 = .ok (.iaload, 1) := by decide +kernel
theorem dX1_take_14 : decode cX1_take 14 = .ok (.ifCond .gt 5, 3) := by decide +kernel
theorem dX1_take_17 : decode cX1_take 17 = .ok (.iconst 0, 1) := by decide +kernel
theorem dX1_take_18 : decode cX1_take 18 = .ok (.ireturn, 1) := by decide +kernel
theorem dX1_take_19 : decode cX1_take 19 = .ok (.aload_n 0, 1) := by decide +kernel
theorem dX1_take_20 : decode cX1_take 20 = .ok (.getfield 9, 3) := by decide +kernel
theorem dX1_take_23 : decode cX1_take 23 = .ok (.iload_n 1, 1) := by decide +kernel
theorem dX1_take_24 : decode cX1_take 24 = .ok (.dup2, 1) := by decide +kernel
theorem dX1_take_25 : decode cX1_take 25 = .ok (.iaload, 1) := by decide +kernel
theorem dX1_take_26 : decode cX1_take 26 = .ok (.iconst 1, 1) := by decide +kernel
theorem dX1_take_27 : decode cX1_take 27 = .ok (.isub, 1) := by decide +kernel
theorem dX1_take_28 : decode cX1_take 28 = .ok (.iastore, 1) := by decide +kernel
theorem dX1_take_29 : decode cX1_take 29 = .ok (.iconst 1, 1) := by decide +kernel
theorem dX1_take_30 : decode cX1_take 30 = .ok (.ireturn, 1) := by decide +kernel
set_option maxRecDepth 20000 in
theorem ggX1_findLost_X1_isWay : GoodIn wsX1_findLost wsX1_isWay := goodIn_r _ [7, 2, 1, 8, 9, 10] (by decide +kernel) (by decide +kernel)
set_option maxRecDepth 20000 in
theorem gX1_findLost_X1_isWay : GoodIn wsX1_findLost (wsV RX1 18 RX1 yX1_isWay wsX1_isWay) := goodIn_app (goodIn_of _ (by decide +kernel)) ggX1_findLost_X1_isWay
theorem dX1_findLost_0 : decode cX1_findLost 0 = .ok (.aload_n 0, 1) := by decide +kernel
theorem dX1_findLost_1 : decode cX1_findLost 1 = .ok (.iload_n 1, 1) := by decide +kernel
theorem dX1_findLost_2 : decode cX1_findLost 2 = .ok (.invokevirtual 18, 3) := by decide +kernel
theorem dX1_findLost_5 : decode cX1_findLost 5 = .ok (.ifCond .eq 12, 3) := by decide +kernel
theorem dX1_findLost_8 : decode cX1_findLost 8 = .ok (.aload_n 0, 1) := by decide +kernel
theorem dX1_findLost_9 : decode cX1_findLost 9 = .ok (.getfield 15, 3) := by decide +kernel
theorem dX1_findLost_12 : decode cX1_findLost 12 = .ok (.iload_n 1, 1) := by decide +kernel
theorem dX1_findLost_13 : decode cX1_findLost 13 = .ok (.iaload, 1) := by decide +kernel
theorem dX1_findLost_14 : decode cX1_findLost 14 = .ok (.ifCond .gt 5, 3) := by decide +kernel
theorem dX1_findLost_17 : decode cX1_findLost 17 = .ok (.iconst 0, 1) := by decide +kernel
theorem dX1_findLost_18 : decode cX1_findLost 18 = .ok (.ireturn, 1) := by decide +kernel
theorem dX1_findLost_19 : decode cX1_findLost 19 = .ok (.aload_n 0, 1) := by decide +kernel
theorem dX1_findLost_20 : decode cX1_findLost 20 = .ok (.getfield 15, 3) := by decide +kernel
theorem dX1_findLost_23 : decode cX1_findLost 23 = .ok (.iload_n 1, 1) := by decide +kernel
theorem dX1_findLost_24 : decode cX1_findLost 24 = .ok (.dup2, 1) := by decide +kernel
theorem dX1_findLost_25 : decode cX1_findLost 25 = .ok (.iaload, 1) := by decide +kernel
theorem dX1_findLost_26 : decode cX1_findLost 26 = .ok (.iconst 1, 1) := by decide +kernel
theorem dX1_findLost_27 : decode cX1_findLost 27 = .ok (.isub, 1) := by decide +kernel
theorem dX1_findLost_28 : decode cX1_findLost 28 = .ok (.iastore, 1) := by decide +kernel
theorem dX1_findLost_29 : decode cX1_findLost 29 = .ok (.aload_n 0, 1) := by decide +kernel
theorem dX1_findLost_30 : decode cX1_findLost 30 = .ok (.getfield 9, 3) := by decide +kernel
theorem dX1_findLost_33 : decode cX1_findLost 33 = .ok (.iload_n 1, 1) := by decide +kernel
theorem dX1_findLost_34 : decode cX1_findLost 34 = .ok (.dup2, 1) := by decide +kernel
theorem dX1_findLost_35 : decode cX1_findLost 35 = .ok (.iaload, 1) := by decide +kernel
theorem dX1_findLost_36 : decode cX1_findLost 36 = .ok (.iconst 1, 1) := by decide +kernel
theorem dX1_findLost_37 : decode cX1_findLost 37 = .ok (.iadd, 1) := by decide +kernel
theorem dX1_findLost_38 : decode cX1_findLost 38 = .ok (.iastore, 1) := by decide +kernel
theorem dX1_findLost_39 : decode cX1_findLost 39 = .ok (.iconst 1, 1) := by decide +kernel
theorem dX1_findLost_40 : decode cX1_findLost 40 = .ok (.ireturn, 1) := by decide +kernel
theorem dX2_init_0 : decode cX2_init 0 = .ok (.aload_n 0, 1) := by decide +kernel
theorem dX2_init_1 : decode cX2_init 1 = .ok (.invokespecial 3, 3) := by decide +kernel
theorem dX2_init_4 : decode cX2_init 4 = .ok (.aload_n 0, 1) := by decide +kernel
theorem dX2_init_5 : decode cX2_init 5 = .ok (.iload_n 2, 1) := by decide +kernel
theorem dX2_init_6 : decode cX2_init 6 = .ok (.putfield 9, 3) := by decide +kernel
theorem dX2_init_9 : decode cX2_init 9 = .ok (.aload_n 0, 1) := by decide +kernel
theorem dX2_init_10 : decode cX2_init 10 = .ok (.iload_n 1, 1) := by decide +kernel
theorem dX2_init_11 : decode cX2_init 11 = .ok (.newarray .int, 2) := by decide +kernel
theorem dX2_init_13 : decode cX2_init 13 = .ok (.putfield 15, 3) := by decide +kernel
theorem dX2_init_16 : decode cX2_init 16 = .ok (.aload_n 0, 1) := by decide +kernel
theorem dX2_init_17 : decode cX2_init 17 = .ok (.iload_n 1, 1) := by decide +kernel
theorem dX2_init_18 : decode cX2_init 18 = .ok (.iload_n 2, 1) := by decide +kernel
theorem dX2_init_19 : decode cX2_init 19 = .ok (.imul, 1) := by decide +kernel
theorem dX2_init_20 : decode cX2_init 20 = .ok (.newarray .int, 2) := by decide +kernel
theorem dX2_init_22 : decode cX2_init 22 = .ok (.putfield 19, 3) := by decide +kernel
theorem dX2_init_25 : decode cX2_init 25 = .ok (.return_, 1) := by decide +kernel
theorem dX2_count_0 : decode cX2_count 0 = .ok (.iload_n 1, 1) := by decide +kernel
theorem dX2_count_1 : decode cX2_count 1 = .ok (.ifCond .lt 21, 3) := by decide +kernel
theorem dX2_count_4 : decode cX2_count 4 = .ok (.iload_n 1, 1) := by decide +kernel
theorem dX2_count_5 : decode cX2_count 5 = .ok (.aload_n 0, 1) := by decide +kernel
theorem dX2_count_6 : decode cX2_count 6 = .ok (.getfield 15, 3) := by decide +kernel
theorem dX2_count_9 : decode cX2_count 9 = .ok (.arraylength, 1) := by decide +kernel
theorem dX2_count_10 : decode cX2_count 10 = .ok (.if_icmp .ge 12, 3) := by decide +kernel
theorem dX2_count_13 : decode cX2_count 13 = .ok (.aload_n 0, 1) := by decide +kernel
theorem dX2_count_14 : decode cX2_count 14 = .ok (.getfield 15, 3) := by decide +kernel
theorem dX2_count_17 : decode cX2_count 17 = .ok (.iload_n 1, 1) := by decide +kernel
theorem dX2_count_18 : decode cX2_count 18 = .ok (.iaload, 1) := by decide +kernel
theorem dX2_count_19 : decode cX2_count 19 = .ok (.goto 4, 3) := by decide +kernel
theorem dX2_count_22 : decode cX2_count 22 = .ok (.iconst 0, 1) := by decide +kernel
theorem dX2_count_23 : decode cX2_count 23 = .ok (.ireturn, 1) := by decide +kernel
set_option maxRecDepth 20000 in
theorem ggX2_item_X2_count : GoodIn wsX2_item wsX2_count := goodIn_r _ [7, 8, 9, 10, 11] (by decide +kernel) (by decide +kernel)
set_option maxRecDepth 20000 in
theorem gX2_item_X2_count : GoodIn wsX2_item (wsV RX2 22 RX2 yX2_count wsX2_count) := goodIn_app (goodIn_of _ (by decide +kernel)) ggX2_item_X2_count
theorem dX2_item_0 : decode cX2_item 0 = .ok (.iload_n 2, 1) := by decide +kernel
theorem dX2_item_1 : decode cX2_item 1 = .ok (.ifCond .lt 28, 3) := by decide +kernel
theorem dX2_item_4 : decode cX2_item 4 = .ok (.iload_n 2, 1) := by decide +kernel
theorem dX2_item_5 : decode cX2_item 5 = .ok (.aload_n 0, 1) := by decide +kernel
theorem dX2_item_6 : decode cX2_item 6 = .ok (.iload_n 1, 1) := by decide +kernel
theorem dX2_item_7 : decode cX2_item 7 = .ok (.invokevirtual 22, 3) := by decide +kernel
theorem dX2_item_10 : decode cX2_item 10 = .ok (.if_icmp .ge 19, 3) := by decide +kernel
theorem dX2_item_13 : decode cX2_item 13 = .ok (.aload_n 0, 1) := by decide +kernel
theorem dX2_item_14 : decode cX2_item 14 = .ok (.getfield 19, 3) := by decide +kernel
theorem dX2_item_17 : decode cX2_item 17 = .ok (.iload_n 1, 1) := by decide +kernel
theorem dX2_item_18 : decode cX2_item 18 = .ok (.aload_n 0, 1) := by decide +kernel
theorem dX2_item_19 : decode cX2_item 19 = .ok (.getfield 9, 3) := by decide +kernel
theorem dX2_item_22 : decode cX2_item 22 = .ok (.imul, 1) := by decide +kernel
theorem dX2_item_23 : decode cX2_item 23 = .ok (.iload_n 2, 1) := by decide +kernel
theorem dX2_item_24 : decode cX2_item 24 = .ok (.iadd, 1) := by decide +kernel
theorem dX2_item_25 : decode cX2_item 25 = .ok (.iaload, 1) := by decide +kernel
theorem dX2_item_26 : decode cX2_item 26 = .ok (.goto 4, 3) := by decide +kernel
theorem dX2_item_29 : decode cX2_item 29 = .ok (.iconst (-1), 1) := by decide +kernel
theorem dX2_item_30 : decode cX2_item 30 = .ok (.ireturn, 1) := by decide +kernel
theorem dX2_add_0 : decode cX2_add 0 = .ok (.iload_n 1, 1) := by decide +kernel
theorem dX2_add_1 : decode cX2_add 1 = .ok (.ifCond .lt 25, 3) := by decide +kernel
theorem dX2_add_4 : decode cX2_add 4 = .ok (.iload_n 1, 1) := by decide +kernel
theorem dX2_add_5 : decode cX2_add 5 = .ok (.aload_n 0, 1) := by decide +kernel
theorem dX2_add_6 : decode cX2_add 6 = .ok (.getfield 15, 3) := by decide +kernel
theorem dX2_add_9 : decode cX2_add 9 = .ok (.arraylength, 1) := by decide +kernel
theorem dX2_add_10 : decode cX2_add 10 = .ok (.if_icmp .ge 16, 3) := by decide +kernel
theorem dX2_add_13 : decode cX2_add 13 = .ok (.aload_n 0, 1) := by decide +kernel
theorem dX2_add_14 : decode cX2_add 14 = .ok (.getfield 15, 3) := by decide +kernel
theorem dX2_add_17 : decode cX2_add 17 = .ok (.iload_n 1, 1) := by decide +kernel
theorem dX2_add_18 : decode cX2_add 18 = .ok (.iaload, 1) := by decide +kernel
theorem dX2_add_19 : decode cX2_add 19 = .ok (.aload_n 0, 1) := by decide +kernel
theorem dX2_add_20 : decode cX2_add 20 = .ok (.getfield 9, 3) := by decide +kernel
theorem dX2_add_23 : decode cX2_add 23 = .ok (.if_icmp .lt 6, 3) := by decide +kernel
theorem dX2_add_26 : decode cX2_add 26 = .ok (.bipush (-4), 2) := by decide +kernel
theorem dX2_add_28 : decode cX2_add 28 = .ok (.ireturn, 1) := by decide +kernel
theorem dX2_add_29 : decode cX2_add 29 = .ok (.aload_n 0, 1) := by decide +kernel
theorem dX2_add_30 : decode cX2_add 30 = .ok (.getfield 19, 3) := by decide +kernel
theorem dX2_add_33 : decode cX2_add 33 = .ok (.iload_n 1, 1) := by decide +kernel
theorem dX2_add_34 : decode cX2_add 34 = .ok (.aload_n 0, 1) := by decide +kernel
theorem dX2_add_35 : decode cX2_add 35 = .ok (.getfield 9, 3) := by decide +kernel
theorem dX2_add_38 : decode cX2_add 38 = .ok (.imul, 1) := by decide +kernel
theorem dX2_add_39 : decode cX2_add 39 = .ok (.aload_n 0, 1) := by decide +kernel
theorem dX2_add_40 : decode cX2_add 40 = .ok (.getfield 15, 3) := by decide +kernel
theorem dX2_add_43 : decode cX2_add 43 = .ok (.iload_n 1, 1) := by decide +kernel
theorem dX2_add_44 : decode cX2_add 44 = .ok (.iaload, 1) := by decide +kernel
theorem dX2_add_45 : decode cX2_add 45 = .ok (.iadd, 1) := by decide +kernel
theorem dX2_add_46 : decode cX2_add 46 = .ok (.iload_n 2, 1) := by decide +kernel
theorem dX2_add_47 : decode cX2_add 47 = .ok (.iastore, 1) := by decide +kernel
theorem dX2_add_48 : decode cX2_add 48 = .ok (.aload_n 0, 1) := by decide +kernel
theorem dX2_add_49 : decode cX2_add 49 = .ok (.getfield 15, 3) := by decide +kernel
theorem dX2_add_52 : decode cX2_add 52 = .ok (.iload_n 1, 1) := by decide +kernel
theorem dX2_add_53 : decode cX2_add 53 = .ok (.dup2, 1) := by decide +kernel
theorem dX2_add_54 : decode cX2_add 54 = .ok (.iaload, 1) := by decide +kernel
theorem dX2_add_55 : decode cX2_add 55 = .ok (.iconst 1, 1) := by decide +kernel
theorem dX2_add_56 : decode cX2_add 56 = .ok (.iadd, 1) := by decide +kernel
theorem dX2_add_57 : decode cX2_add 57 = .ok (.iastore, 1) := by decide +kernel
theorem dX2_add_58 : decode cX2_add 58 = .ok (.aload_n 0, 1) := by decide +kernel
theorem dX2_add_59 : decode cX2_add 59 = .ok (.getfield 15, 3) := by decide +kernel
theorem dX2_add_62 : decode cX2_add 62 = .ok (.iload_n 1, 1) := by decide +kernel
theorem dX2_add_63 : decode cX2_add 63 = .ok (.iaload, 1) := by decide +kernel
theorem dX2_add_64 : decode cX2_add 64 = .ok (.ireturn, 1) := by decide +kernel
set_option maxRecDepth 20000 in
theorem ggX2_placeOf_X2_count : GoodIn wsX2_placeOf wsX2_count := goodIn_r _ [7, 8, 9, 10, 11] (by decide +kernel) (by decide +kernel)
set_option maxRecDepth 20000 in
theorem gX2_placeOf_X2_count : GoodIn wsX2_placeOf (wsV RX2 22 RX2 yX2_count wsX2_count) := goodIn_app (goodIn_of _ (by decide +kernel)) ggX2_placeOf_X2_count
theorem dX2_placeOf_0 : decode cX2_placeOf 0 = .ok (.aload_n 0, 1) := by decide +kernel
theorem dX2_placeOf_1 : decode cX2_placeOf 1 = .ok (.iload_n 1, 1) := by decide +kernel
theorem dX2_placeOf_2 : decode cX2_placeOf 2 = .ok (.invokevirtual 22, 3) := by decide +kernel
theorem dX2_placeOf_5 : decode cX2_placeOf 5 = .ok (.istore_n 3, 1) := by decide +kernel
theorem dX2_placeOf_6 : decode cX2_placeOf 6 = .ok (.iconst 0, 1) := by decide +kernel
theorem dX2_placeOf_7 : decode cX2_placeOf 7 = .ok (.istore 4, 2) := by decide +kernel
theorem dX2_placeOf_9 : decode cX2_placeOf 9 = .ok (.iload 4, 2) := by decide +kernel
theorem dX2_placeOf_11 : decode cX2_placeOf 11 = .ok (.iload_n 3, 1) := by decide +kernel
theorem dX2_placeOf_12 : decode cX2_placeOf 12 = .ok (.if_icmp .ge 30, 3) := by decide +kernel
theorem dX2_placeOf_15 : decode cX2_placeOf 15 = .ok (.aload_n 0, 1) := by decide +kernel
theorem dX2_placeOf_16 : decode cX2_placeOf 16 = .ok (.getfield 19, 3) := by decide +kernel
theorem dX2_placeOf_19 : decode cX2_placeOf 19 = .ok (.iload_n 1, 1) := by decide +kernel
theorem dX2_placeOf_20 : decode cX2_placeOf 20 = .ok (.aload_n 0, 1) := by decide +kernel
theorem dX2_placeOf_21 : decode cX2_placeOf 21 = .ok (.getfield 9, 3) := by decide +kernel
theorem dX2_placeOf_24 : decode cX2_placeOf 24 = .ok (.imul, 1) := by decide +kernel
theorem dX2_placeOf_25 : decode cX2_placeOf 25 = .ok (.iload 4, 2) := by decide +kernel
theorem dX2_placeOf_27 : decode cX2_placeOf 27 = .ok (.iadd, 1) := by decide +kernel
theorem dX2_placeOf_28 : decode cX2_placeOf 28 = .ok (.iaload, 1) := by decide +kernel
theorem dX2_placeOf_29 : decode cX2_placeOf 29 = .ok (.iload_n 2, 1) := by decide +kernel
theorem dX2_placeOf_30 : decode cX2_placeOf 30 = .ok (.if_icmp .ne 6, 3) := by decide +kernel
theorem dX2_placeOf_33 : decode cX2_placeOf 33 = .ok (.iload 4, 2) := by decide +kernel
theorem dX2_placeOf_35 : decode cX2_placeOf 35 = .ok (.ireturn, 1) := by decide +kernel
theorem dX2_placeOf_36 : decode cX2_placeOf 36 = .ok (.iinc 4 1, 3) := by decide +kernel
theorem dX2_placeOf_39 : decode cX2_placeOf 39 = .ok (.goto (-30), 3) := by decide +kernel
theorem dX2_placeOf_42 : decode cX2_placeOf 42 = .ok (.iconst (-1), 1) := by decide +kernel
theorem dX2_placeOf_43 : decode cX2_placeOf 43 = .ok (.ireturn, 1) := by decide +kernel
set_option maxRecDepth 20000 in
theorem ggX2_remove_X2_placeOf : GoodIn wsX2_remove wsX2_placeOf := goodIn_r _ [8, 2, 3, 9, 10, 11, 7, 12, 1, 13, 14, 15] (by decide +kernel) (by decide +kernel)
set_option maxRecDepth 20000 in
theorem gX2_remove_X2_placeOf : GoodIn wsX2_remove (wsV RX2 26 RX2 yX2_placeOf wsX2_placeOf) := goodIn_app (goodIn_of _ (by decide +kernel)) ggX2_remove_X2_placeOf
theorem dX2_remove_0 : decode cX2_remove 0 = .ok (.aload_n 0, 1) := by decide +kernel
theorem dX2_remove_1 : decode cX2_remove 1 = .ok (.iload_n 1, 1) := by decide +kernel
theorem dX2_remove_2 : decode cX2_remove 2 = .ok (.iload_n 2, 1) := by decide +kernel
theorem dX2_remove_3 : decode cX2_remove 3 = .ok (.invokevirtual 26, 3) := by decide +kernel
theorem dX2_remove_6 : decode cX2_remove 6 = .ok (.istore_n 3, 1) := by decide +kernel
theorem dX2_remove_7 : decode cX2_remove 7 = .ok (.iload_n 3, 1) := by decide +kernel
theorem dX2_remove_8 : decode cX2_remove 8 = .ok (.iconst (-1), 1) := by decide +kernel
theorem dX2_remove_9 : decode cX2_remove 9 = .ok (.if_icmp .ne 4, 3) := by decide +kernel
theorem dX2_remove_12 : decode cX2_remove 12 = .ok (.return_, 1) := by decide +kernel
theorem dX2_remove_13 : decode cX2_remove 13 = .ok (.aload_n 0, 1) := by decide +kernel
theorem dX2_remove_14 : decode cX2_remove 14 = .ok (.getfield 15, 3) := by decide +kernel
theorem dX2_remove_17 : decode cX2_remove 17 = .ok (.iload_n 1, 1) := by decide +kernel
theorem dX2_remove_18 : decode cX2_remove 18 = .ok (.dup2, 1) := by decide +kernel
theorem dX2_remove_19 : decode cX2_remove 19 = .ok (.iaload, 1) := by decide +kernel
theorem dX2_remove_20 : decode cX2_remove 20 = .ok (.iconst 1, 1) := by decide +kernel
theorem dX2_remove_21 : decode cX2_remove 21 = .ok (.isub, 1) := by decide +kernel
theorem dX2_remove_22 : decode cX2_remove 22 = .ok (.iastore, 1) := by decide +kernel
theorem dX2_remove_23 : decode cX2_remove 23 = .ok (.iload_n 3, 1) := by decide +kernel
theorem dX2_remove_24 : decode cX2_remove 24 = .ok (.istore 4, 2) := by decide +kernel
theorem dX2_remove_26 : decode cX2_remove 26 = .ok (.iload 4, 2) := by decide +kernel
theorem dX2_remove_28 : decode cX2_remove 28 = .ok (.aload_n 0, 1) := by decide +kernel
theorem dX2_remove_29 : decode cX2_remove 29 = .ok (.getfield 15, 3) := by decide +kernel
theorem dX2_remove_32 : decode cX2_remove 32 = .ok (.iload_n 1, 1) := by decide +kernel
theorem dX2_remove_33 : decode cX2_remove 33 = .ok (.iaload, 1) := by decide +kernel
theorem dX2_remove_34 : decode cX2_remove 34 = .ok (.if_icmp .ge 39, 3) := by decide +kernel
theorem dX2_remove_37 : decode cX2_remove 37 = .ok (.aload_n 0, 1) := by decide +kernel
theorem dX2_remove_38 : decode cX2_remove 38 = .ok (.getfield 19, 3) := by decide +kernel
theorem dX2_remove_41 : decode cX2_remove 41 = .ok (.iload_n 1, 1) := by decide +kernel
theorem dX2_remove_42 : decode cX2_remove 42 = .ok (.aload_n 0, 1) := by decide +kernel
theorem dX2_remove_43 : decode cX2_remove 43 = .ok (.getfield 9, 3) := by decide +kernel
theorem dX2_remove_46 : decode cX2_remove 46 = .ok (.imul, 1) := by decide +kernel
theorem dX2_remove_47 : decode cX2_remove 47 = .ok (.iload 4, 2) := by decide +kernel
theorem dX2_remove_49 : decode cX2_remove 49 = .ok (.iadd, 1) := by decide +kernel
theorem dX2_remove_50 : decode cX2_remove 50 = .ok (.aload_n 0, 1) := by decide +kernel
theorem dX2_remove_51 : decode cX2_remove 51 = .ok (.getfield 19, 3) := by decide +kernel
theorem dX2_remove_54 : decode cX2_remove 54 = .ok (.iload_n 1, 1) := by decide +kernel
theorem dX2_remove_55 : decode cX2_remove 55 = .ok (.aload_n 0, 1) := by decide +kernel
theorem dX2_remove_56 : decode cX2_remove 56 = .ok (.getfield 9, 3) := by decide +kernel
theorem dX2_remove_59 : decode cX2_remove 59 = .ok (.imul, 1) := by decide +kernel
theorem dX2_remove_60 : decode cX2_remove 60 = .ok (.iload 4, 2) := by decide +kernel
theorem dX2_remove_62 : decode cX2_remove 62 = .ok (.iadd, 1) := by decide +kernel
theorem dX2_remove_63 : decode cX2_remove 63 = .ok (.iconst 1, 1) := by decide +kernel
theorem dX2_remove_64 : decode cX2_remove 64 = .ok (.iadd, 1) := by decide +kernel
theorem dX2_remove_65 : decode cX2_remove 65 = .ok (.iaload, 1) := by decide +kernel
theorem dX2_remove_66 : decode cX2_remove 66 = .ok (.iastore, 1) := by decide +kernel
theorem dX2_remove_67 : decode cX2_remove 67 = .ok (.iinc 4 1, 3) := by decide +kernel
theorem dX2_remove_70 : decode cX2_remove 70 = .ok (.goto (-44), 3) := by decide +kernel
theorem dX2_remove_73 : decode cX2_remove 73 = .ok (.return_, 1) := by decide +kernel
set_option maxRecDepth 20000 in
theorem ggX3_init_X2_init : GoodIn wsX3_init wsX2_init := goodIn_r _ [14, 15, 2, 3, 16, 4, 17, 18, 27, 28, 29] (by decide +kernel) (by decide +kernel)
set_option maxRecDepth 20000 in
theorem gX3_init_X2_init : GoodIn wsX3_init (wsX2_init) := ggX3_init_X2_init
set_option maxRecDepth 20000 in
theorem ggX3_init_J7_fill_53178 : GoodIn wsX3_init wsJ7_fill_53178 := goodIn_r _ [22] (by decide +kernel) (by decide +kernel)
set_option maxRecDepth 20000 in
theorem gX3_init_J7_fill_53178 : GoodIn wsX3_init (va_wsS RX3 30 yJ7_fill_53178 wsJ7_fill_53178) := goodIn_app (goodIn_of _ (by decide +kernel)) ggX3_init_J7_fill_53178
theorem dX3_init_0 : decode cX3_init 0 = .ok (.aload_n 0, 1) := by decide +kernel
theorem dX3_init_1 : decode cX3_init 1 = .ok (.invokespecial 3, 3) := by decide +kernel
theorem dX3_init_4 : decode cX3_init 4 = .ok (.aload_n 0, 1) := by decide +kernel
theorem dX3_init_5 : decode cX3_init 5 = .ok (.bipush 10, 2) := by decide +kernel
theorem dX3_init_7 : decode cX3_init 7 = .ok (.newarray .int, 2) := by decide +kernel
theorem dX3_init_9 : decode cX3_init 9 = .ok (.putfield 9, 3) := by decide +kernel
theorem dX3_init_12 : decode cX3_init 12 = .ok (.aload_n 0, 1) := by decide +kernel
theorem dX3_init_13 : decode cX3_init 13 = .ok (.bipush 10, 2) := by decide +kernel
theorem dX3_init_15 : decode cX3_init 15 = .ok (.newarray .int, 2) := by decide +kernel
theorem dX3_init_17 : decode cX3_init 17 = .ok (.putfield 15, 3) := by decide +kernel
theorem dX3_init_20 : decode cX3_init 20 = .ok (.aload_n 0, 1) := by decide +kernel
theorem dX3_init_21 : decode cX3_init 21 = .ok (.bipush 10, 2) := by decide +kernel
theorem dX3_init_23 : decode cX3_init 23 = .ok (.newarray .int, 2) := by decide +kernel
theorem dX3_init_25 : decode cX3_init 25 = .ok (.putfield 18, 3) := by decide +kernel
theorem dX3_init_28 : decode cX3_init 28 = .ok (.aload_n 0, 1) := by decide +kernel
theorem dX3_init_29 : decode cX3_init 29 = .ok (.new 21, 3) := by decide +kernel
theorem dX3_init_32 : decode cX3_init 32 = .ok (.dup, 1) := by decide +kernel
theorem dX3_init_33 : decode cX3_init 33 = .ok (.bipush 10, 2) := by decide +kernel
theorem dX3_init_35 : decode cX3_init 35 = .ok (.bipush 12, 2) := by decide +kernel
theorem dX3_init_37 : decode cX3_init 37 = .ok (.invokespecial 23, 3) := by decide +kernel
theorem dX3_init_40 : decode cX3_init 40 = .ok (.putfield 26, 3) := by decide +kernel
theorem dX3_init_43 : decode cX3_init 43 = .ok (.aload_n 0, 1) := by decide +kernel
theorem dX3_init_44 : decode cX3_init 44 = .ok (.getfield 18, 3) := by decide +kernel
theorem dX3_init_47 : decode cX3_init 47 = .ok (.iconst (-1), 1) := by decide +kernel
theorem dX3_init_48 : decode cX3_init 48 = .ok (.invokestatic 30, 3) := by decide +kernel
theorem dX3_init_51 : decode cX3_init 51 = .ok (.return_, 1) := by decide +kernel
set_option maxRecDepth 20000 in
theorem ggX3_isFreeFor_X2_item : GoodIn wsX3_isFreeFor wsX2_item := goodIn_r _ [7, 8, 9, 10, 11, 12, 6, 13, 14, 19, 20, 21] (by decide +kernel) (by decide +kernel)
set_option maxRecDepth 20000 in
theorem gX3_isFreeFor_X2_item : GoodIn wsX3_isFreeFor (wsV RX3 36 RX2 yX2_item wsX2_item) := goodIn_app (goodIn_of _ (by decide +kernel)) ggX3_isFreeFor_X2_item
theorem dX3_isFreeFor_0 : decode cX3_isFreeFor 0 = .ok (.aload_n 0, 1) := by decide +kernel
theorem dX3_isFreeFor_1 : decode cX3_isFreeFor 1 = .ok (.getfield 26, 3) := by decide +kernel
theorem dX3_isFreeFor_4 : decode cX3_isFreeFor 4 = .ok (.iload_n 1, 1) := by decide +kernel
theorem dX3_isFreeFor_5 : decode cX3_isFreeFor 5 = .ok (.iconst 0, 1) := by decide +kernel
theorem dX3_isFreeFor_6 : decode cX3_isFreeFor 6 = .ok (.invokevirtual 36, 3) := by decide +kernel
theorem dX3_isFreeFor_9 : decode cX3_isFreeFor 9 = .ok (.istore_n 3, 1) := by decide +kernel
theorem dX3_isFreeFor_10 : decode cX3_isFreeFor 10 = .ok (.aload_n 0, 1) := by decide +kernel
theorem dX3_isFreeFor_11 : decode cX3_isFreeFor 11 = .ok (.getfield 18, 3) := by decide +kernel
theorem dX3_isFreeFor_14 : decode cX3_isFreeFor 14 = .ok (.iload_n 1, 1) := by decide +kernel
theorem dX3_isFreeFor_15 : decode cX3_isFreeFor 15 = .ok (.iaload, 1) := by decide +kernel
theorem dX3_isFreeFor_16 : decode cX3_isFreeFor 16 = .ok (.iconst (-1), 1) := by decide +kernel
theorem dX3_isFreeFor_17 : decode cX3_isFreeFor 17 = .ok (.if_icmp .ne 17, 3) := by decide +kernel
theorem dX3_isFreeFor_20 : decode cX3_isFreeFor 20 = .ok (.iload_n 3, 1) := by decide +kernel
theorem dX3_isFreeFor_21 : decode cX3_isFreeFor 21 = .ok (.iconst (-1), 1) := by decide +kernel
theorem dX3_isFreeFor_22 : decode cX3_isFreeFor 22 = .ok (.if_icmp .eq 8, 3) := by decide +kernel
theorem dX3_isFreeFor_25 : decode cX3_isFreeFor 25 = .ok (.iload_n 3, 1) := by decide +kernel
theorem dX3_isFreeFor_26 : decode cX3_isFreeFor 26 = .ok (.iload_n 2, 1) := by decide +kernel
theorem dX3_isFreeFor_27 : decode cX3_isFreeFor 27 = .ok (.if_icmp .ne 7, 3) := by decide +kernel
theorem dX3_isFreeFor_30 : decode cX3_isFreeFor 30 = .ok (.iconst 1, 1) := by decide +kernel
theorem dX3_isFreeFor_31 : decode cX3_isFreeFor 31 = .ok (.goto 4, 3) := by decide +kernel
theorem dX3_isFreeFor_34 : decode cX3_isFreeFor 34 = .ok (.iconst 0, 1) := by decide +kernel
theorem dX3_isFreeFor_35 : decode cX3_isFreeFor 35 = .ok (.ireturn, 1) := by decide +kernel
set_option maxRecDepth 20000 in
theorem ggX3_take_X2_remove : GoodIn wsX3_take wsX2_remove := goodIn_r _ [9, 10, 11, 12, 13, 14, 15, 8, 16, 17, 18, 19, 20, 25, 26, 27] (by decide +kernel) (by decide +kernel)
set_option maxRecDepth 20000 in
theorem gX3_take_X2_remove : GoodIn wsX3_take (wsV RX3 40 RX2 yX2_remove wsX2_remove) := goodIn_app (goodIn_of _ (by decide +kernel)) ggX3_take_X2_remove
theorem dX3_take_0 : decode cX3_take 0 = .ok (.aload_n 0, 1) := by decide +kernel
theorem dX3_take_1 : decode cX3_take 1 = .ok (.getfield 26, 3) := by decide +kernel
theorem dX3_take_4 : decode cX3_take 4 = .ok (.iload_n 1, 1) := by decide +kernel
theorem dX3_take_5 : decode cX3_take 5 = .ok (.iload_n 2, 1) := by decide +kernel
theorem dX3_take_6 : decode cX3_take 6 = .ok (.invokevirtual 40, 3) := by decide +kernel
theorem dX3_take_9 : decode cX3_take 9 = .ok (.aload_n 0, 1) := by decide +kernel
theorem dX3_take_10 : decode cX3_take 10 = .ok (.getfield 18, 3) := by decide +kernel
theorem dX3_take_13 : decode cX3_take 13 = .ok (.iload_n 1, 1) := by decide +kernel
theorem dX3_take_14 : decode cX3_take 14 = .ok (.iload_n 2, 1) := by decide +kernel
theorem dX3_take_15 : decode cX3_take 15 = .ok (.iastore, 1) := by decide +kernel
theorem dX3_take_16 : decode cX3_take 16 = .ok (.aload_n 0, 1) := by decide +kernel
theorem dX3_take_17 : decode cX3_take 17 = .ok (.getfield 15, 3) := by decide +kernel
theorem dX3_take_20 : decode cX3_take 20 = .ok (.iload_n 1, 1) := by decide +kernel
theorem dX3_take_21 : decode cX3_take 21 = .ok (.aload_n 0, 1) := by decide +kernel
theorem dX3_take_22 : decode cX3_take 22 = .ok (.getfield 9, 3) := by decide +kernel
theorem dX3_take_25 : decode cX3_take 25 = .ok (.iload_n 1, 1) := by decide +kernel
theorem dX3_take_26 : decode cX3_take 26 = .ok (.iaload, 1) := by decide +kernel
theorem dX3_take_27 : decode cX3_take 27 = .ok (.iastore, 1) := by decide +kernel
theorem dX3_take_28 : decode cX3_take 28 = .ok (.return_, 1) := by decide +kernel
set_option maxRecDepth 20000 in
theorem ggX3_standInLine_X2_placeOf : GoodIn wsX3_standInLine wsX2_placeOf := goodIn_r _ [6, 7, 8, 9, 10, 11, 5, 12, 13, 22, 23, 24] (by decide +kernel) (by decide +kernel)
set_option maxRecDepth 20000 in
theorem gX3_standInLine_X2_placeOf : GoodIn wsX3_standInLine (wsV RX3 43 RX2 yX2_placeOf wsX2_placeOf) := goodIn_app (goodIn_of _ (by decide +kernel)) ggX3_standInLine_X2_placeOf
set_option maxRecDepth 20000 in
theorem ggX3_standInLine_X2_add : GoodIn wsX3_standInLine wsX2_add := goodIn_r _ [17, 13, 8, 7, 22, 23, 24] (by decide +kernel) (by decide +kernel)
set_option maxRecDepth 20000 in
theorem gX3_standInLine_X2_add : GoodIn wsX3_standInLine (wsV RX3 46 RX2 yX2_add wsX2_add) := goodIn_app (goodIn_of _ (by decide +kernel)) ggX3_standInLine_X2_add
theorem dX3_standInLine_0 : decode cX3_standInLine 0 = .ok (.aload_n 0, 1) := by decide +kernel
theorem dX3_standInLine_1 : decode cX3_standInLine 1 = .ok (.getfield 26, 3) := by decide +kernel
theorem dX3_standInLine_4 : decode cX3_standInLine 4 = .ok (.iload_n 1, 1) := by decide +kernel
theorem dX3_standInLine_5 : decode cX3_standInLine 5 = .ok (.iload_n 2, 1) := by decide +kernel
theorem dX3_standInLine_6 : decode cX3_standInLine 6 = .ok (.invokevirtual 43, 3) := by decide +kernel
theorem dX3_standInLine_9 : decode cX3_standInLine 9 = .ok (.iconst (-1), 1) := by decide +kernel
theorem dX3_standInLine_10 : decode cX3_standInLine 10 = .ok (.if_icmp .ne 13, 3) := by decide +kernel
theorem dX3_standInLine_13 : decode cX3_standInLine 13 = .ok (.aload_n 0, 1) := by decide +kernel
theorem dX3_standInLine_14 : decode cX3_standInLine 14 = .ok (.getfield 26, 3) := by decide +kernel
theorem dX3_standInLine_17 : decode cX3_standInLine 17 = .ok (.iload_n 1, 1) := by decide +kernel
theorem dX3_standInLine_18 : decode cX3_standInLine 18 = .ok (.iload_n 2, 1) := by decide +kernel
theorem dX3_standInLine_19 : decode cX3_standInLine 19 = .ok (.invokevirtual 46, 3) := by decide +kernel
theorem dX3_standInLine_22 : decode cX3_standInLine 22 = .ok (.pop, 1) := by decide +kernel
theorem dX3_standInLine_23 : decode cX3_standInLine 23 = .ok (.return_, 1) := by decide +kernel
theorem dX3_change_0 : decode cX3_change 0 = .ok (.iconst 0, 1) := by decide +kernel
theorem dX3_change_1 : decode cX3_change 1 = .ok (.istore_n 3, 1) := by decide +kernel
theorem dX3_change_2 : decode cX3_change 2 = .ok (.iload_n 3, 1) := by decide +kernel
theorem dX3_change_3 : decode cX3_change 3 = .ok (.bipush 10, 2) := by decide +kernel
theorem dX3_change_5 : decode cX3_change 5 = .ok (.if_icmp .ge 40, 3) := by decide +kernel
theorem dX3_change_8 : decode cX3_change 8 = .ok (.aload_n 0, 1) := by decide +kernel
theorem dX3_change_9 : decode cX3_change 9 = .ok (.getfield 18, 3) := by decide +kernel
theorem dX3_change_12 : decode cX3_change 12 = .ok (.iload_n 3, 1) := by decide +kernel
theorem dX3_change_13 : decode cX3_change 13 = .ok (.iaload, 1) := by decide +kernel
theorem dX3_change_14 : decode cX3_change 14 = .ok (.iload_n 1, 1) := by decide +kernel
theorem dX3_change_15 : decode cX3_change 15 = .ok (.if_icmp .ne 24, 3) := by decide +kernel
theorem dX3_change_18 : decode cX3_change 18 = .ok (.aload_n 0, 1) := by decide +kernel
theorem dX3_change_19 : decode cX3_change 19 = .ok (.getfield 9, 3) := by decide +kernel
theorem dX3_change_22 : decode cX3_change 22 = .ok (.iload_n 3, 1) := by decide +kernel
theorem dX3_change_23 : decode cX3_change 23 = .ok (.aload_n 0, 1) := by decide +kernel
theorem dX3_change_24 : decode cX3_change 24 = .ok (.getfield 9, 3) := by decide +kernel
theorem dX3_change_27 : decode cX3_change 27 = .ok (.iload_n 3, 1) := by decide +kernel
theorem dX3_change_28 : decode cX3_change 28 = .ok (.iaload, 1) := by decide +kernel
theorem dX3_change_29 : decode cX3_change 29 = .ok (.iconst 3, 1) := by decide +kernel
theorem dX3_change_30 : decode cX3_change 30 = .ok (.imul, 1) := by decide +kernel
theorem dX3_change_31 : decode cX3_change 31 = .ok (.iload_n 1, 1) := by decide +kernel
theorem dX3_change_32 : decode cX3_change 32 = .ok (.iadd, 1) := by decide +kernel
theorem dX3_change_33 : decode cX3_change 33 = .ok (.bipush 10, 2) := by decide +kernel
theorem dX3_change_35 : decode cX3_change 35 = .ok (.iload_n 2, 1) := by decide +kernel
theorem dX3_change_36 : decode cX3_change 36 = .ok (.imul, 1) := by decide +kernel
theorem dX3_change_37 : decode cX3_change 37 = .ok (.iadd, 1) := by decide +kernel
theorem dX3_change_38 : decode cX3_change 38 = .ok (.iastore, 1) := by decide +kernel
theorem dX3_change_39 : decode cX3_change 39 = .ok (.iinc 3 1, 3) := by decide +kernel
