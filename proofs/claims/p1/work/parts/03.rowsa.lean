set_option maxRecDepth 20000 in
theorem wsL_law_in0 : ∀ w ∈ wsL_law0, w ∈ lw_tbl := fun w h => (goodIn_p wsL_law0 [41, 44, 51, 57, 72, 93, 110, 122, 478, 192, 576, 579, 196, 200, 204, 208, 212, 215, 219, 583, 587, 591, 223, 595, 227, 599, 231, 235, 239, 243, 247, 251, 255, 259, 263, 267, 272, 276, 281, 286, 289, 293, 297, 301, 305, 309, 314, 318, 324, 328, 332, 603, 607, 611, 615, 619, 623, 627, 631, 336, 340, 635, 344, 348, 355, 352, 639, 643, 359, 647, 363, 367, 651, 371, 655, 375, 379, 659, 383, 663, 387, 667, 407, 671, 572, 391, 675, 395, 399, 679] (by decide +kernel) (by decide +kernel) w h).1
theorem wsL_law_x0 : ∀ w ∈ (vx_atS RX5 141 "java/lang/IndexOutOfBoundsException" ["java/lang/RuntimeException", "java/lang/Exception"]).filter goodWord, w ∈ lw_tbl := by decide +kernel
theorem wsL_law_in : ∀ w ∈ wsL_law, w ∈ lw_tbl := fun w h => (List.mem_append.mp h).elim (fun h => wsL_law_in0 w h) (fun h => wsL_law_x0 w h)
theorem inlX0 : ∀ w ∈ wsX00, w ∈ wsL_law := fun _ h => List.mem_append_left _ (List.mem_append_left _ (List.mem_append_left _ (List.mem_append_left _ (List.mem_append_right _ h))))
theorem inX0 : ∀ w ∈ wsX00, w ∈ lw_tbl := fun w h => wsL_law_in w (inlX0 w h)
theorem inlX1 : ∀ w ∈ wsX10, w ∈ wsL_law := fun _ h => List.mem_append_left _ (List.mem_append_left _ (List.mem_append_left _ (List.mem_append_left _ (List.mem_append_left _ (List.mem_append_right _ h)))))
theorem inX1 : ∀ w ∈ wsX10, w ∈ lw_tbl := fun w h => wsL_law_in w (inlX1 w h)
theorem inlX2 : ∀ w ∈ wsX20, w ∈ wsL_law := fun _ h => List.mem_append_left _ (List.mem_append_left _ (List.mem_append_right _ h))
theorem inX2 : ∀ w ∈ wsX20, w ∈ lw_tbl := fun w h => wsL_law_in w (inlX2 w h)
theorem inlX3 : ∀ w ∈ wsX30, w ∈ wsL_law := fun _ h => List.mem_append_left _ (List.mem_append_left _ (List.mem_append_left _ (List.mem_append_left _ (List.mem_append_left _ (List.mem_append_left _ (List.mem_append_right _ h))))))
theorem inX3 : ∀ w ∈ wsX30, w ∈ lw_tbl := fun w h => wsL_law_in w (inlX3 w h)
theorem inlX4 : ∀ w ∈ wsX40, w ∈ wsL_law := fun _ h => List.mem_append_left _ (List.mem_append_left _ (List.mem_append_left _ (List.mem_append_right _ h)))
theorem inX4 : ∀ w ∈ wsX40, w ∈ lw_tbl := fun w h => wsL_law_in w (inlX4 w h)
theorem inlX5 : ∀ w ∈ wsX50, w ∈ wsL_law := fun _ h => List.mem_append_left _ (List.mem_append_left _ (List.mem_append_left _ (List.mem_append_left _ (List.mem_append_left _ (List.mem_append_left _ (List.mem_append_left _ (List.mem_append_left _ (List.mem_append_right _ h))))))))
theorem inX5 : ∀ w ∈ wsX50, w ∈ lw_tbl := fun w h => wsL_law_in w (inlX5 w h)
theorem inlX6 : ∀ w ∈ wsX60, w ∈ wsL_law := fun _ h => List.mem_append_left _ (List.mem_append_left _ (List.mem_append_left _ (List.mem_append_left _ (List.mem_append_left _ (List.mem_append_left _ (List.mem_append_left _ (List.mem_append_right _ h)))))))
theorem inX6 : ∀ w ∈ wsX60, w ∈ lw_tbl := fun w h => wsL_law_in w (inlX6 w h)
theorem inJ9 : ∀ w ∈ wsJ90, w ∈ lw_tbl := by decide +kernel
theorem inJ0 : ∀ w ∈ wsJ00, w ∈ lw_tbl := by decide +kernel
theorem inJ7 : ∀ w ∈ wsJ70, w ∈ lw_tbl := by decide +kernel
set_option maxRecDepth 20000 in
theorem ggX0_init_X2_init : GoodIn wsX0_init wsX2_init := goodIn_r _ [10, 11, 2, 3, 12, 13, 14, 15, 16, 17, 18] (by decide +kernel) (by decide +kernel)
set_option maxRecDepth 20000 in
theorem gX0_init_X2_init : GoodIn wsX0_init (wsX2_init) := ggX0_init_X2_init
theorem dX0_init_0 : decode cX0_init 0 = .ok (.aload_n 0, 1) := by decide +kernel
theorem dX0_init_1 : decode cX0_init 1 = .ok (.invokespecial 3, 3) := by decide +kernel
theorem dX0_init_4 : decode cX0_init 4 = .ok (.aload_n 0, 1) := by decide +kernel
theorem dX0_init_5 : decode cX0_init 5 = .ok (.new 9, 3) := by decide +kernel
theorem dX0_init_8 : decode cX0_init 8 = .ok (.dup, 1) := by decide +kernel
theorem dX0_init_9 : decode cX0_init 9 = .ok (.iconst 1, 1) := by decide +kernel
theorem dX0_init_10 : decode cX0_init 10 = .ok (.sipush 300, 3) := by decide +kernel
theorem dX0_init_13 : decode cX0_init 13 = .ok (.invokespecial 11, 3) := by decide +kernel
theorem dX0_init_16 : decode cX0_init 16 = .ok (.putfield 14, 3) := by decide +kernel
theorem dX0_init_19 : decode cX0_init 19 = .ok (.return_, 1) := by decide +kernel
set_option maxRecDepth 20000 in
theorem ggX0_write_X2_add : GoodIn wsX0_write wsX2_add := goodIn_r _ [6, 7, 8, 9, 11, 12, 13] (by decide +kernel) (by decide +kernel)
set_option maxRecDepth 20000 in
theorem gX0_write_X2_add : GoodIn wsX0_write (wsV RX0 20 RX2 yX2_add wsX2_add) := goodIn_app (goodIn_of _ (by decide +kernel)) ggX0_write_X2_add
theorem dX0_write_0 : decode cX0_write 0 = .ok (.aload_n 0, 1) := by decide +kernel
theorem dX0_write_1 : decode cX0_write 1 = .ok (.getfield 14, 3) := by decide +kernel
theorem dX0_write_4 : decode cX0_write 4 = .ok (.iconst 0, 1) := by decide +kernel
theorem dX0_write_5 : decode cX0_write 5 = .ok (.bipush 100, 2) := by decide +kernel
theorem dX0_write_7 : decode cX0_write 7 = .ok (.iload_n 1, 1) := by decide +kernel
theorem dX0_write_8 : decode cX0_write 8 = .ok (.imul, 1) := by decide +kernel
theorem dX0_write_9 : decode cX0_write 9 = .ok (.iload_n 2, 1) := by decide +kernel
theorem dX0_write_10 : decode cX0_write 10 = .ok (.iadd, 1) := by decide +kernel
theorem dX0_write_11 : decode cX0_write 11 = .ok (.invokevirtual 20, 3) := by decide +kernel
theorem dX0_write_14 : decode cX0_write 14 = .ok (.pop, 1) := by decide +kernel
theorem dX0_write_15 : decode cX0_write 15 = .ok (.return_, 1) := by decide +kernel
theorem dX1_init_0 : decode cX1_init 0 = .ok (.aload_n 0, 1) := by decide +kernel
theorem dX1_init_1 : decode cX1_init 1 = .ok (.invokespecial 3, 3) := by decide +kernel
theorem dX1_init_4 : decode cX1_init 4 = .ok (.aload_n 0, 1) := by decide +kernel
theorem dX1_init_5 : decode cX1_init 5 = .ok (.sipush 144, 3) := by decide +kernel
theorem dX1_init_8 : decode cX1_init 8 = .ok (.newarray .int, 2) := by decide +kernel
theorem dX1_init_10 : decode cX1_init 10 = .ok (.putfield 9, 3) := by decide +kernel
theorem dX1_init_13 : decode cX1_init 13 = .ok (.aload_n 0, 1) := by decide +kernel
theorem dX1_init_14 : decode cX1_init 14 = .ok (.sipush 144, 3) := by decide +kernel
theorem dX1_init_17 : decode cX1_init 17 = .ok (.newarray .int, 2) := by decide +kernel
theorem dX1_init_19 : decode cX1_init 19 = .ok (.putfield 15, 3) := by decide +kernel
theorem dX1_init_22 : decode cX1_init 22 = .ok (.return_, 1) := by decide +kernel
theorem dX1_way_0 : decode cX1_way 0 = .ok (.iload_n 0, 1) := by decide +kernel
theorem dX1_way_1 : decode cX1_way 1 = .ok (.bipush 12, 2) := by decide +kernel
theorem dX1_way_3 : decode cX1_way 3 = .ok (.imul, 1) := by decide +kernel
theorem dX1_way_4 : decode cX1_way 4 = .ok (.iload_n 1, 1) := by decide +kernel
theorem dX1_way_5 : decode cX1_way 5 = .ok (.iadd, 1) := by decide +kernel
theorem dX1_way_6 : decode cX1_way 6 = .ok (.ireturn, 1) := by decide +kernel
theorem dX1_isWay_0 : decode cX1_isWay 0 = .ok (.iload_n 1, 1) := by decide +kernel
theorem dX1_isWay_1 : decode cX1_isWay 1 = .ok (.ifCond .lt 25, 3) := by decide +kernel
theorem dX1_isWay_4 : decode cX1_isWay 4 = .ok (.iload_n 1, 1) := by decide +kernel
theorem dX1_isWay_5 : decode cX1_isWay 5 = .ok (.aload_n 0, 1) := by decide +kernel
theorem dX1_isWay_6 : decode cX1_isWay 6 = .ok (.getfield 9, 3) := by decide +kernel
theorem dX1_isWay_9 : decode cX1_isWay 9 = .ok (.arraylength, 1) := by decide +kernel
theorem dX1_isWay_10 : decode cX1_isWay 10 = .ok (.if_icmp .ge 16, 3) := by decide +kernel
theorem dX1_isWay_13 : decode cX1_isWay 13 = .ok (.iload_n 1, 1) := by decide +kernel
theorem dX1_isWay_14 : decode cX1_isWay 14 = .ok (.aload_n 0, 1) := by decide +kernel
theorem dX1_isWay_15 : decode cX1_isWay 15 = .ok (.getfield 15, 3) := by decide +kernel
theorem dX1_isWay_18 : decode cX1_isWay 18 = .ok (.arraylength, 1) := by decide +kernel
theorem dX1_isWay_19 : decode cX1_isWay 19 = .ok (.if_icmp .ge 7, 3) := by decide +kernel
theorem dX1_isWay_22 : decode cX1_isWay 22 = .ok (.iconst 1, 1) := by decide +kernel
theorem dX1_isWay_23 : decode cX1_isWay 23 = .ok (.goto 4, 3) := by decide +kernel
theorem dX1_isWay_26 : decode cX1_isWay 26 = .ok (.iconst 0, 1) := by decide +kernel
theorem dX1_isWay_27 : decode cX1_isWay 27 = .ok (.ireturn, 1) := by decide +kernel
set_option maxRecDepth 20000 in
theorem ggX1_countThere_X1_isWay : GoodIn wsX1_countThere wsX1_isWay := goodIn_r _ [6, 1, 7, 8, 9, 10] (by decide +kernel) (by decide +kernel)
set_option maxRecDepth 20000 in
theorem gX1_countThere_X1_isWay : GoodIn wsX1_countThere (wsV RX1 18 RX1 yX1_isWay wsX1_isWay) := goodIn_app (goodIn_of _ (by decide +kernel)) ggX1_countThere_X1_isWay
theorem dX1_countThere_0 : decode cX1_countThere 0 = .ok (.aload_n 0, 1) := by decide +kernel
theorem dX1_countThere_1 : decode cX1_countThere 1 = .ok (.iload_n 1, 1) := by decide +kernel
theorem dX1_countThere_2 : decode cX1_countThere 2 = .ok (.invokevirtual 18, 3) := by decide +kernel
theorem dX1_countThere_5 : decode cX1_countThere 5 = .ok (.ifCond .eq 12, 3) := by decide +kernel
theorem dX1_countThere_8 : decode cX1_countThere 8 = .ok (.aload_n 0, 1) := by decide +kernel
theorem dX1_countThere_9 : decode cX1_countThere 9 = .ok (.getfield 9, 3) := by decide +kernel
theorem dX1_countThere_12 : decode cX1_countThere 12 = .ok (.iload_n 1, 1) := by decide +kernel
theorem dX1_countThere_13 : decode cX1_countThere 13 = .ok (.iaload, 1) := by decide +kernel
theorem dX1_countThere_14 : decode cX1_countThere 14 = .ok (.goto 4, 3) := by decide +kernel
theorem dX1_countThere_17 : decode cX1_countThere 17 = .ok (.iconst 0, 1) := by decide +kernel
theorem dX1_countThere_18 : decode cX1_countThere 18 = .ok (.ireturn, 1) := by decide +kernel
set_option maxRecDepth 20000 in
theorem ggX1_send_X1_isWay : GoodIn wsX1_send wsX1_isWay := goodIn_r _ [8, 3, 2, 9, 10, 11] (by decide +kernel) (by decide +kernel)
set_option maxRecDepth 20000 in
theorem gX1_send_X1_isWay : GoodIn wsX1_send (wsV RX1 18 RX1 yX1_isWay wsX1_isWay) := goodIn_app (goodIn_of _ (by decide +kernel)) ggX1_send_X1_isWay
theorem dX1_send_0 : decode cX1_send 0 = .ok (.aload_n 0, 1) := by decide +kernel
theorem dX1_send_1 : decode cX1_send 1 = .ok (.iload_n 1, 1) := by decide +kernel
theorem dX1_send_2 : decode cX1_send 2 = .ok (.invokevirtual 18, 3) := by decide +kernel
theorem dX1_send_5 : decode cX1_send 5 = .ok (.ifCond .ne 4, 3) := by decide +kernel
theorem dX1_send_8 : decode cX1_send 8 = .ok (.return_, 1) := by decide +kernel
theorem dX1_send_9 : decode cX1_send 9 = .ok (.aload_n 0, 1) := by decide +kernel
theorem dX1_send_10 : decode cX1_send 10 = .ok (.getfield 22, 3) := by decide +kernel
theorem dX1_send_13 : decode cX1_send 13 = .ok (.ifCond .le 26, 3) := by decide +kernel
theorem dX1_send_16 : decode cX1_send 16 = .ok (.aload_n 0, 1) := by decide +kernel
theorem dX1_send_17 : decode cX1_send 17 = .ok (.dup, 1) := by decide +kernel
theorem dX1_send_18 : decode cX1_send 18 = .ok (.getfield 22, 3) := by decide +kernel
theorem dX1_send_21 : decode cX1_send 21 = .ok (.iconst 1, 1) := by decide +kernel
theorem dX1_send_22 : decode cX1_send 22 = .ok (.isub, 1) := by decide +kernel
theorem dX1_send_23 : decode cX1_send 23 = .ok (.putfield 22, 3) := by decide +kernel
theorem dX1_send_26 : decode cX1_send 26 = .ok (.aload_n 0, 1) := by decide +kernel
theorem dX1_send_27 : decode cX1_send 27 = .ok (.getfield 15, 3) := by decide +kernel
theorem dX1_send_30 : decode cX1_send 30 = .ok (.iload_n 1, 1) := by decide +kernel
theorem dX1_send_31 : decode cX1_send 31 = .ok (.dup2, 1) := by decide +kernel
theorem dX1_send_32 : decode cX1_send 32 = .ok (.iaload, 1) := by decide +kernel
theorem dX1_send_33 : decode cX1_send 33 = .ok (.iconst 1, 1) := by decide +kernel
theorem dX1_send_34 : decode cX1_send 34 = .ok (.iadd, 1) := by decide +kernel
theorem dX1_send_35 : decode cX1_send 35 = .ok (.iastore, 1) := by decide +kernel
theorem dX1_send_36 : decode cX1_send 36 = .ok (.goto 13, 3) := by decide +kernel
theorem dX1_send_39 : decode cX1_send 39 = .ok (.aload_n 0, 1) := by decide +kernel
theorem dX1_send_40 : decode cX1_send 40 = .ok (.getfield 9, 3) := by decide +kernel
theorem dX1_send_43 : decode cX1_send 43 = .ok (.iload_n 1, 1) := by decide +kernel
theorem dX1_send_44 : decode cX1_send 44 = .ok (.dup2, 1) := by decide +kernel
theorem dX1_send_45 : decode cX1_send 45 = .ok (.iaload, 1) := by decide +kernel
theorem dX1_send_46 : decode cX1_send 46 = .ok (.iconst 1, 1) := by decide +kernel
theorem dX1_send_47 : decode cX1_send 47 = .ok (.iadd, 1) := by decide +kernel
theorem dX1_send_48 : decode cX1_send 48 = .ok (.iastore, 1) := by decide +kernel
theorem dX1_send_49 : decode cX1_send 49 = .ok (.return_, 1) := by decide +kernel
set_option maxRecDepth 20000 in
theorem ggX1_take_X1_isWay : GoodIn wsX1_take wsX1_isWay := goodIn_r _ [6, 1, 7, 8, 9, 10] (by decide +kernel) (by decide +kernel)
set_option maxRecDepth 20000 in
theorem gX1_take_X1_isWay : GoodIn wsX1_take (wsV RX1 18 RX1 yX1_isWay wsX1_isWay) := goodIn_app (goodIn_of _ (by decide +kernel)) ggX1_take_X1_isWay
theorem dX1_take_0 : decode cX1_take 0 = .ok (.aload_n 0, 1) := by decide +kernel
theorem dX1_take_1 : decode cX1_take 1 = .ok (.iload_n 1, 1) := by decide +kernel
theorem dX1_take_2 : decode cX1_take 2 = .ok (.invokevirtual 18, 3) := by decide +kernel
theorem dX1_take_5 : decode cX1_take 5 = .ok (.ifCond .eq 12, 3) := by decide +kernel
theorem dX1_take_8 : decode cX1_take 8 = .ok (.aload_n 0, 1) := by decide +kernel
theorem dX1_take_9 : decode cX1_take 9 = .ok (.getfield 9, 3) := by decide +kernel
theorem dX1_take_12 : decode cX1_take 12 = .ok (.iload_n 1, 1) := by decide +kernel
theorem dX1_take_13 : decode cX1_take 13 = .ok (.iaload, 1) := by decide +kernel
theorem dX1_take_14 : decode cX1_take 14 = .ok (.ifCond .gt 5, 3) := by decide +kernel
theorem dX1_take_17 : decode cX1_take 17 = .ok (.iconst 0, 1) := by decide +kernel
theorem dX1_take_18 : decode cX1_take 18 = .ok (.ireturn, 1) := by decide +kernel
theorem dX1_take_19 : decode cX1_take 19 = .ok (.aload_n 0, 1) := by decide +kernel
theorem dX1_take_20 : decode cX1_take 20 = .ok (.getfield 9, 3) := by decide +kernel
theorem dX1_take_23 : decode cX1_take 23 = .ok (.iload_n 1, 1) := by decide +kernel
theorem dX1_take_24 : decode cX1_take 24 = .ok (.dup2, 1) := by decide +kernel
theorem dX1_take_25 : decode cX1_take 25 = .ok (.iaload, 1) := by decide +kernel
theorem dX1_take_26 : decode cX1_take 26 = .ok (.iconst 1, 1) := by decide +kernel
theorem dX1_take_27 : decode cX1_take 27 = .ok (.isub, 1) := by decide +kernel
theorem dX1_take_28 : decode cX1_take 28 = .ok (.iastore, 1) := by decide +kernel
theorem dX1_take_29 : decode cX1_take 29 = .ok (.iconst 1, 1) := by decide +kernel
theorem dX1_take_30 : decode cX1_take 30 = .ok (.ireturn, 1) := by decide +kernel
set_option maxRecDepth 20000 in
theorem ggX1_findLost_X1_isWay : GoodIn wsX1_findLost wsX1_isWay := goodIn_r _ [7, 2, 1, 8, 9, 10] (by decide +kernel) (by decide +kernel)
set_option maxRecDepth 20000 in
theorem gX1_findLost_X1_isWay : GoodIn wsX1_findLost (wsV RX1 18 RX1 yX1_isWay wsX1_isWay) := goodIn_app (goodIn_of _ (by decide +kernel)) ggX1_findLost_X1_isWay
theorem dX1_findLost_0 : decode cX1_findLost 0 = .ok (.aload_n 0, 1) := by decide +kernel
theorem dX1_findLost_1 : decode cX1_findLost 1 = .ok (.iload_n 1, 1) := by decide +kernel
theorem dX1_findLost_2 : decode cX1_findLost 2 = .ok (.invokevirtual 18, 3) := by decide +kernel
theorem dX1_findLost_5 : decode cX1_findLost 5 = .ok (.ifCond .eq 12, 3) := by decide +kernel
theorem dX1_findLost_8 : decode cX1_findLost 8 = .ok (.aload_n 0, 1) := by decide +kernel
theorem dX1_findLost_9 : decode cX1_findLost 9 = .ok (.getfield 15, 3) := by decide +kernel
theorem dX1_findLost_12 : decode cX1_findLost 12 = .ok (.iload_n 1, 1) := by decide +kernel
theorem dX1_findLost_13 : decode cX1_findLost 13 = .ok (.iaload, 1) := by decide +kernel
theorem dX1_findLost_14 : decode cX1_findLost 14 = .ok (.ifCond .gt 5, 3) := by decide +kernel
theorem dX1_findLost_17 : decode cX1_findLost 17 = .ok (.iconst 0, 1) := by decide +kernel
theorem dX1_findLost_18 : decode cX1_findLost 18 = .ok (.ireturn, 1) := by decide +kernel
theorem dX1_findLost_19 : decode cX1_findLost 19 = .ok (.aload_n 0, 1) := by decide +kernel
theorem dX1_findLost_20 : decode cX1_findLost 20 = .ok (.getfield 15, 3) := by decide +kernel
theorem dX1_findLost_23 : decode cX1_findLost 23 = .ok (.iload_n 1, 1) := by decide +kernel
theorem dX1_findLost_24 : decode cX1_findLost 24 = .ok (.dup2, 1) := by decide +kernel
theorem dX1_findLost_25 : decode cX1_findLost 25 = .ok (.iaload, 1) := by decide +kernel
theorem dX1_findLost_26 : decode cX1_findLost 26 = .ok (.iconst 1, 1) := by decide +kernel
theorem dX1_findLost_27 : decode cX1_findLost 27 = .ok (.isub, 1) := by decide +kernel
theorem dX1_findLost_28 : decode cX1_findLost 28 = .ok (.iastore, 1) := by decide +kernel
theorem dX1_findLost_29 : decode cX1_findLost 29 = .ok (.aload_n 0, 1) := by decide +kernel
theorem dX1_findLost_30 : decode cX1_findLost 30 = .ok (.getfield 9, 3) := by decide +kernel
theorem dX1_findLost_33 : decode cX1_findLost 33 = .ok (.iload_n 1, 1) := by decide +kernel
theorem dX1_findLost_34 : decode cX1_findLost 34 = .ok (.dup2, 1) := by decide +kernel
theorem dX1_findLost_35 : decode cX1_findLost 35 = .ok (.iaload, 1) := by decide +kernel
theorem dX1_findLost_36 : decode cX1_findLost 36 = .ok (.iconst 1, 1) := by decide +kernel
theorem dX1_findLost_37 : decode cX1_findLost 37 = .ok (.iadd, 1) := by decide +kernel
theorem dX1_findLost_38 : decode cX1_findLost 38 = .ok (.iastore, 1) := by decide +kernel
theorem dX1_findLost_39 : decode cX1_findLost 39 = .ok (.iconst 1, 1) := by decide +kernel
theorem dX1_findLost_40 : decode cX1_findLost 40 = .ok (.ireturn, 1) := by decide +kernel
theorem dX2_init_0 : decode cX2_init 0 = .ok (.aload_n 0, 1) := by decide +kernel
theorem dX2_init_1 : decode cX2_init 1 = .ok (.invokespecial 3, 3) := by decide +kernel
theorem dX2_init_4 : decode cX2_init 4 = .ok (.aload_n 0, 1) := by decide +kernel
theorem dX2_init_5 : decode cX2_init 5 = .ok (.iload_n 2, 1) := by decide +kernel
theorem dX2_init_6 : decode cX2_init 6 = .ok (.putfield 9, 3) := by decide +kernel
theorem dX2_init_9 : decode cX2_init 9 = .ok (.aload_n 0, 1) := by decide +kernel
theorem dX2_init_10 : decode cX2_init 10 = .ok (.iload_n 1, 1) := by decide +kernel
theorem dX2_init_11 : decode cX2_init 11 = .ok (.newarray .int, 2) := by decide +kernel
theorem dX2_init_13 : decode cX2_init 13 = .ok (.putfield 15, 3) := by decide +kernel
theorem dX2_init_16 : decode cX2_init 16 = .ok (.aload_n 0, 1) := by decide +kernel
theorem dX2_init_17 : decode cX2_init 17 = .ok (.iload_n 1, 1) := by decide +kernel
theorem dX2_init_18 : decode cX2_init 18 = .ok (.iload_n 2, 1) := by decide +kernel
theorem dX2_init_19 : decode cX2_init 19 = .ok (.imul, 1) := by decide +kernel
theorem dX2_init_20 : decode cX2_init 20 = .ok (.newarray .int, 2) := by decide +kernel
theorem dX2_init_22 : decode cX2_init 22 = .ok (.putfield 19, 3) := by decide +kernel
theorem dX2_init_25 : decode cX2_init 25 = .ok (.return_, 1) := by decide +kernel
theorem dX2_count_0 : decode cX2_count 0 = .ok (.iload_n 1, 1) := by decide +kernel
theorem dX2_count_1 : decode cX2_count 1 = .ok (.ifCond .lt 21, 3) := by decide +kernel
theorem dX2_count_4 : decode cX2_count 4 = .ok (.iload_n 1, 1) := by decide +kernel
theorem dX2_count_5 : decode cX2_count 5 = .ok (.aload_n 0, 1) := by decide +kernel
theorem dX2_count_6 : decode cX2_count 6 = .ok (.getfield 15, 3) := by decide +kernel
theorem dX2_count_9 : decode cX2_count 9 = .ok (.arraylength, 1) := by decide +kernel
theorem dX2_count_10 : decode cX2_count 10 = .ok (.if_icmp .ge 12, 3) := by decide +kernel
theorem dX2_count_13 : decode cX2_count 13 = .ok (.aload_n 0, 1) := by decide +kernel
theorem dX2_count_14 : decode cX2_count 14 = .ok (.getfield 15, 3) := by decide +kernel
theorem dX2_count_17 : decode cX2_count 17 = .ok (.iload_n 1, 1) := by decide +kernel
theorem dX2_count_18 : decode cX2_count 18 = .ok (.iaload, 1) := by decide +kernel
theorem dX2_count_19 : decode cX2_count 19 = .ok (.goto 4, 3) := by decide +kernel
theorem dX2_count_22 : decode cX2_count 22 = .ok (.iconst 0, 1) := by decide +kernel
theorem dX2_count_23 : decode cX2_count 23 = .ok (.ireturn, 1) := by decide +kernel
set_option maxRecDepth 20000 in
theorem ggX2_item_X2_count : GoodIn wsX2_item wsX2_count := goodIn_r _ [7, 8, 9, 10, 11] (by decide +kernel) (by decide +kernel)
set_option maxRecDepth 20000 in
theorem gX2_item_X2_count : GoodIn wsX2_item (wsV RX2 22 RX2 yX2_count wsX2_count) := goodIn_app (goodIn_of _ (by decide +kernel)) ggX2_item_X2_count
theorem dX2_item_0 : decode cX2_item 0 = .ok (.iload_n 2, 1) := by decide +kernel
theorem dX2_item_1 : decode cX2_item 1 = .ok (.ifCond .lt 28, 3) := by decide +kernel
theorem dX2_item_4 : decode cX2_item 4 = .ok (.iload_n 2, 1) := by decide +kernel
theorem dX2_item_5 : decode cX2_item 5 = .ok (.aload_n 0, 1) := by decide +kernel
theorem dX2_item_6 : decode cX2_item 6 = .ok (.iload_n 1, 1) := by decide +kernel
theorem dX2_item_7 : decode cX2_item 7 = .ok (.invokevirtual 22, 3) := by decide +kernel
theorem dX2_item_10 : decode cX2_item 10 = .ok (.if_icmp .ge 19, 3) := by decide +kernel
theorem dX2_item_13 : decode cX2_item 13 = .ok (.aload_n 0, 1) := by decide +kernel
theorem dX2_item_14 : decode cX2_item 14 = .ok (.getfield 19, 3) := by decide +kernel
theorem dX2_item_17 : decode cX2_item 17 = .ok (.iload_n 1, 1) := by decide +kernel
theorem dX2_item_18 : decode cX2_item 18 = .ok (.aload_n 0, 1) := by decide +kernel
theorem dX2_item_19 : decode cX2_item 19 = .ok (.getfield 9, 3) := by decide +kernel
theorem dX2_item_22 : decode cX2_item 22 = .ok (.imul, 1) := by decide +kernel
theorem dX2_item_23 : decode cX2_item 23 = .ok (.iload_n 2, 1) := by decide +kernel
theorem dX2_item_24 : decode cX2_item 24 = .ok (.iadd, 1) := by decide +kernel
theorem dX2_item_25 : decode cX2_item 25 = .ok (.iaload, 1) := by decide +kernel
theorem dX2_item_26 : decode cX2_item 26 = .ok (.goto 4, 3) := by decide +kernel
theorem dX2_item_29 : decode cX2_item 29 = .ok (.iconst (-1), 1) := by decide +kernel
theorem dX2_item_30 : decode cX2_item 30 = .ok (.ireturn, 1) := by decide +kernel
theorem dX2_add_0 : decode cX2_add 0 = .ok (.iload_n 1, 1) := by decide +kernel
theorem dX2_add_1 : decode cX2_add 1 = .ok (.ifCond .lt 25, 3) := by decide +kernel
theorem dX2_add_4 : decode cX2_add 4 = .ok (.iload_n 1, 1) := by decide +kernel
theorem dX2_add_5 : decode cX2_add 5 = .ok (.aload_n 0, 1) := by decide +kernel
theorem dX2_add_6 : decode cX2_add 6 = .ok (.getfield 15, 3) := by decide +kernel
theorem dX2_add_9 : decode cX2_add 9 = .ok (.arraylength, 1) := by decide +kernel
theorem dX2_add_10 : decode cX2_add 10 = .ok (.if_icmp .ge 16, 3) := by decide +kernel
theorem dX2_add_13 : decode cX2_add 13 = .ok (.aload_n 0, 1) := by decide +kernel
theorem dX2_add_14 : decode cX2_add 14 = .ok (.getfield 15, 3) := by decide +kernel
theorem dX2_add_17 : decode cX2_add 17 = .ok (.iload_n 1, 1) := by decide +kernel
theorem dX2_add_18 : decode cX2_add 18 = .ok (.iaload, 1) := by decide +kernel
theorem dX2_add_19 : decode cX2_add 19 = .ok (.aload_n 0, 1) := by decide +kernel
theorem dX2_add_20 : decode cX2_add 20 = .ok (.getfield 9, 3) := by decide +kernel
theorem dX2_add_23 : decode cX2_add 23 = .ok (.if_icmp .lt 6, 3) := by decide +kernel
theorem dX2_add_26 : decode cX2_add 26 = .ok (.bipush (-4), 2) := by decide +kernel
theorem dX2_add_28 : decode cX2_add 28 = .ok (.ireturn, 1) := by decide +kernel
theorem dX2_add_29 : decode cX2_add 29 = .ok (.aload_n 0, 1) := by decide +kernel
theorem dX2_add_30 : decode cX2_add 30 = .ok (.getfield 19, 3) := by decide +kernel
theorem dX2_add_33 : decode cX2_add 33 = .ok (.iload_n 1, 1) := by decide +kernel
theorem dX2_add_34 : decode cX2_add 34 = .ok (.aload_n 0, 1) := by decide +kernel
theorem dX2_add_35 : decode cX2_add 35 = .ok (.getfield 9, 3) := by decide +kernel
theorem dX2_add_38 : decode cX2_add 38 = .ok (.imul, 1) := by decide +kernel
theorem dX2_add_39 : decode cX2_add 39 = .ok (.aload_n 0, 1) := by decide +kernel
theorem dX2_add_40 : decode cX2_add 40 = .ok (.getfield 15, 3) := by decide +kernel
theorem dX2_add_43 : decode cX2_add 43 = .ok (.iload_n 1, 1) := by decide +kernel
theorem dX2_add_44 : decode cX2_add 44 = .ok (.iaload, 1) := by decide +kernel
theorem dX2_add_45 : decode cX2_add 45 = .ok (.iadd, 1) := by decide +kernel
theorem dX2_add_46 : decode cX2_add 46 = .ok (.iload_n 2, 1) := by decide +kernel
theorem dX2_add_47 : decode cX2_add 47 = .ok (.iastore, 1) := by decide +kernel
theorem dX2_add_48 : decode cX2_add 48 = .ok (.aload_n 0, 1) := by decide +kernel
theorem dX2_add_49 : decode cX2_add 49 = .ok (.getfield 15, 3) := by decide +kernel
theorem dX2_add_52 : decode cX2_add 52 = .ok (.iload_n 1, 1) := by decide +kernel
theorem dX2_add_53 : decode cX2_add 53 = .ok (.dup2, 1) := by decide +kernel
theorem dX2_add_54 : decode cX2_add 54 = .ok (.iaload, 1) := by decide +kernel
theorem dX2_add_55 : decode cX2_add 55 = .ok (.iconst 1, 1) := by decide +kernel
theorem dX2_add_56 : decode cX2_add 56 = .ok (.iadd, 1) := by decide +kernel
theorem dX2_add_57 : decode cX2_add 57 = .ok (.iastore, 1) := by decide +kernel
theorem dX2_add_58 : decode cX2_add 58 = .ok (.aload_n 0, 1) := by decide +kernel
theorem dX2_add_59 : decode cX2_add 59 = .ok (.getfield 15, 3) := by decide +kernel
theorem dX2_add_62 : decode cX2_add 62 = .ok (.iload_n 1, 1) := by decide +kernel
theorem dX2_add_63 : decode cX2_add 63 = .ok (.iaload, 1) := by decide +kernel
theorem dX2_add_64 : decode cX2_add 64 = .ok (.ireturn, 1) := by decide +kernel
set_option maxRecDepth 20000 in
theorem ggX2_placeOf_X2_count : GoodIn wsX2_placeOf wsX2_count := goodIn_r _ [7, 8, 9, 10, 11] (by decide +kernel) (by decide +kernel)
set_option maxRecDepth 20000 in
theorem gX2_placeOf_X2_count : GoodIn wsX2_placeOf (wsV RX2 22 RX2 yX2_count wsX2_count) := goodIn_app (goodIn_of _ (by decide +kernel)) ggX2_placeOf_X2_count
theorem dX2_placeOf_0 : decode cX2_placeOf 0 = .ok (.aload_n 0, 1) := by decide +kernel
theorem dX2_placeOf_1 : decode cX2_placeOf 1 = .ok (.iload_n 1, 1) := by decide +kernel
theorem dX2_placeOf_2 : decode cX2_placeOf 2 = .ok (.invokevirtual 22, 3) := by decide +kernel
theorem dX2_placeOf_5 : decode cX2_placeOf 5 = .ok (.istore_n 3, 1) := by decide +kernel
theorem dX2_placeOf_6 : decode cX2_placeOf 6 = .ok (.iconst 0, 1) := by decide +kernel
theorem dX2_placeOf_7 : decode cX2_placeOf 7 = .ok (.istore 4, 2) := by decide +kernel
theorem dX2_placeOf_9 : decode cX2_placeOf 9 = .ok (.iload 4, 2) := by decide +kernel
theorem dX2_placeOf_11 : decode cX2_placeOf 11 = .ok (.iload_n 3, 1) := by decide +kernel
theorem dX2_placeOf_12 : decode cX2_placeOf 12 = .ok (.if_icmp .ge 30, 3) := by decide +kernel
theorem dX2_placeOf_15 : decode cX2_placeOf 15 = .ok (.aload_n 0, 1) := by decide +kernel
theorem dX2_placeOf_16 : decode cX2_placeOf 16 = .ok (.getfield 19, 3) := by decide +kernel
theorem dX2_placeOf_19 : decode cX2_placeOf 19 = .ok (.iload_n 1, 1) := by decide +kernel
theorem dX2_placeOf_20 : decode cX2_placeOf 20 = .ok (.aload_n 0, 1) := by decide +kernel
theorem dX2_placeOf_21 : decode cX2_placeOf 21 = .ok (.getfield 9, 3) := by decide +kernel
theorem dX2_placeOf_24 : decode cX2_placeOf 24 = .ok (.imul, 1) := by decide +kernel
theorem dX2_placeOf_25 : decode cX2_placeOf 25 = .ok (.iload 4, 2) := by decide +kernel
theorem dX2_placeOf_27 : decode cX2_placeOf 27 = .ok (.iadd, 1) := by decide +kernel
theorem dX2_placeOf_28 : decode cX2_placeOf 28 = .ok (.iaload, 1) := by decide +kernel
theorem dX2_placeOf_29 : decode cX2_placeOf 29 = .ok (.iload_n 2, 1) := by decide +kernel
theorem dX2_placeOf_30 : decode cX2_placeOf 30 = .ok (.if_icmp .ne 6, 3) := by decide +kernel
theorem dX2_placeOf_33 : decode cX2_placeOf 33 = .ok (.iload 4, 2) := by decide +kernel
theorem dX2_placeOf_35 : decode cX2_placeOf 35 = .ok (.ireturn, 1) := by decide +kernel
theorem dX2_placeOf_36 : decode cX2_placeOf 36 = .ok (.iinc 4 1, 3) := by decide +kernel
theorem dX2_placeOf_39 : decode cX2_placeOf 39 = .ok (.goto (-30), 3) := by decide +kernel
theorem dX2_placeOf_42 : decode cX2_placeOf 42 = .ok (.iconst (-1), 1) := by decide +kernel
theorem dX2_placeOf_43 : decode cX2_placeOf 43 = .ok (.ireturn, 1) := by decide +kernel
set_option maxRecDepth 20000 in
theorem ggX2_remove_X2_placeOf : GoodIn wsX2_remove wsX2_placeOf := goodIn_r _ [8, 2, 3, 9, 10, 11, 7, 12, 1, 13, 14, 15] (by decide +kernel) (by decide +kernel)
set_option maxRecDepth 20000 in
theorem gX2_remove_X2_placeOf : GoodIn wsX2_remove (wsV RX2 26 RX2 yX2_placeOf wsX2_placeOf) := goodIn_app (goodIn_of _ (by decide +kernel)) ggX2_remove_X2_placeOf
theorem dX2_remove_0 : decode cX2_remove 0 = .ok (.aload_n 0, 1) := by decide +kernel
theorem dX2_remove_1 : decode cX2_remove 1 = .ok (.iload_n 1, 1) := by decide +kernel
theorem dX2_remove_2 : decode cX2_remove 2 = .ok (.iload_n 2, 1) := by decide +kernel
theorem dX2_remove_3 : decode cX2_remove 3 = .ok (.invokevirtual 26, 3) := by decide +kernel
theorem dX2_remove_6 : decode cX2_remove 6 = .ok (.istore_n 3, 1) := by decide +kernel
theorem dX2_remove_7 : decode cX2_remove 7 = .ok (.iload_n 3, 1) := by decide +kernel
theorem dX2_remove_8 : decode cX2_remove 8 = .ok (.iconst (-1), 1) := by decide +kernel
theorem dX2_remove_9 : decode cX2_remove 9 = .ok (.if_icmp .ne 4, 3) := by decide +kernel
theorem dX2_remove_12 : decode cX2_remove 12 = .ok (.return_, 1) := by decide +kernel
theorem dX2_remove_13 : decode cX2_remove 13 = .ok (.aload_n 0, 1) := by decide +kernel
theorem dX2_remove_14 : decode cX2_remove 14 = .ok (.getfield 15, 3) := by decide +kernel
theorem dX2_remove_17 : decode cX2_remove 17 = .ok (.iload_n 1, 1) := by decide +kernel
theorem dX2_remove_18 : decode cX2_remove 18 = .ok (.dup2, 1) := by decide +kernel
theorem dX2_remove_19 : decode cX2_remove 19 = .ok (.iaload, 1) := by decide +kernel
theorem dX2_remove_20 : decode cX2_remove 20 = .ok (.iconst 1, 1) := by decide +kernel
theorem dX2_remove_21 : decode cX2_remove 21 = .ok (.isub, 1) := by decide +kernel
theorem dX2_remove_22 : decode cX2_remove 22 = .ok (.iastore, 1) := by decide +kernel
theorem dX2_remove_23 : decode cX2_remove 23 = .ok (.iload_n 3, 1) := by decide +kernel
theorem dX2_remove_24 : decode cX2_remove 24 = .ok (.istore 4, 2) := by decide +kernel
theorem dX2_remove_26 : decode cX2_remove 26 = .ok (.iload 4, 2) := by decide +kernel
theorem dX2_remove_28 : decode cX2_remove 28 = .ok (.aload_n 0, 1) := by decide +kernel
theorem dX2_remove_29 : decode cX2_remove 29 = .ok (.getfield 15, 3) := by decide +kernel
theorem dX2_remove_32 : decode cX2_remove 32 = .ok (.iload_n 1, 1) := by decide +kernel
theorem dX2_remove_33 : decode cX2_remove 33 = .ok (.iaload, 1) := by decide +kernel
theorem dX2_remove_34 : decode cX2_remove 34 = .ok (.if_icmp .ge 39, 3) := by decide +kernel
theorem dX2_remove_37 : decode cX2_remove 37 = .ok (.aload_n 0, 1) := by decide +kernel
theorem dX2_remove_38 : decode cX2_remove 38 = .ok (.getfield 19, 3) := by decide +kernel
theorem dX2_remove_41 : decode cX2_remove 41 = .ok (.iload_n 1, 1) := by decide +kernel
theorem dX2_remove_42 : decode cX2_remove 42 = .ok (.aload_n 0, 1) := by decide +kernel
theorem dX2_remove_43 : decode cX2_remove 43 = .ok (.getfield 9, 3) := by decide +kernel
theorem dX2_remove_46 : decode cX2_remove 46 = .ok (.imul, 1) := by decide +kernel
theorem dX2_remove_47 : decode cX2_remove 47 = .ok (.iload 4, 2) := by decide +kernel
theorem dX2_remove_49 : decode cX2_remove 49 = .ok (.iadd, 1) := by decide +kernel
theorem dX2_remove_50 : decode cX2_remove 50 = .ok (.aload_n 0, 1) := by decide +kernel
theorem dX2_remove_51 : decode cX2_remove 51 = .ok (.getfield 19, 3) := by decide +kernel
theorem dX2_remove_54 : decode cX2_remove 54 = .ok (.iload_n 1, 1) := by decide +kernel
theorem dX2_remove_55 : decode cX2_remove 55 = .ok (.aload_n 0, 1) := by decide +kernel
theorem dX2_remove_56 : decode cX2_remove 56 = .ok (.getfield 9, 3) := by decide +kernel
theorem dX2_remove_59 : decode cX2_remove 59 = .ok (.imul, 1) := by decide +kernel
theorem dX2_remove_60 : decode cX2_remove 60 = .ok (.iload 4, 2) := by decide +kernel
theorem dX2_remove_62 : decode cX2_remove 62 = .ok (.iadd, 1) := by decide +kernel
theorem dX2_remove_63 : decode cX2_remove 63 = .ok (.iconst 1, 1) := by decide +kernel
theorem dX2_remove_64 : decode cX2_remove 64 = .ok (.iadd, 1) := by decide +kernel
theorem dX2_remove_65 : decode cX2_remove 65 = .ok (.iaload, 1) := by decide +kernel
theorem dX2_remove_66 : decode cX2_remove 66 = .ok (.iastore, 1) := by decide +kernel
theorem dX2_remove_67 : decode cX2_remove 67 = .ok (.iinc 4 1, 3) := by decide +kernel
theorem dX2_remove_70 : decode cX2_remove 70 = .ok (.goto (-44), 3) := by decide +kernel
theorem dX2_remove_73 : decode cX2_remove 73 = .ok (.return_, 1) := by decide +kernel
set_option maxRecDepth 20000 in
theorem ggX3_init_X2_init : GoodIn wsX3_init wsX2_init := goodIn_r _ [14, 15, 2, 3, 16, 4, 17, 18, 27, 28, 29] (by decide +kernel) (by decide +kernel)
set_option maxRecDepth 20000 in
theorem gX3_init_X2_init : GoodIn wsX3_init (wsX2_init) := ggX3_init_X2_init
set_option maxRecDepth 20000 in
theorem ggX3_init_J7_fill_53178 : GoodIn wsX3_init wsJ7_fill_53178 := goodIn_r _ [22] (by decide +kernel) (by decide +kernel)
set_option maxRecDepth 20000 in
theorem gX3_init_J7_fill_53178 : GoodIn wsX3_init (va_wsS RX3 30 yJ7_fill_53178 wsJ7_fill_53178) := goodIn_app (goodIn_of _ (by decide +kernel)) ggX3_init_J7_fill_53178
theorem dX3_init_0 : decode cX3_init 0 = .ok (.aload_n 0, 1) := by decide +kernel
theorem dX3_init_1 : decode cX3_init 1 = .ok (.invokespecial 3, 3) := by decide +kernel
theorem dX3_init_4 : decode cX3_init 4 = .ok (.aload_n 0, 1) := by decide +kernel
theorem dX3_init_5 : decode cX3_init 5 = .ok (.bipush 10, 2) := by decide +kernel
theorem dX3_init_7 : decode cX3_init 7 = .ok (.newarray .int, 2) := by decide +kernel
theorem dX3_init_9 : decode cX3_init 9 = .ok (.putfield 9, 3) := by decide +kernel
theorem dX3_init_12 : decode cX3_init 12 = .ok (.aload_n 0, 1) := by decide +kernel
theorem dX3_init_13 : decode cX3_init 13 = .ok (.bipush 10, 2) := by decide +kernel
theorem dX3_init_15 : decode cX3_init 15 = .ok (.newarray .int, 2) := by decide +kernel
theorem dX3_init_17 : decode cX3_init 17 = .ok (.putfield 15, 3) := by decide +kernel
theorem dX3_init_20 : decode cX3_init 20 = .ok (.aload_n 0, 1) := by decide +kernel
theorem dX3_init_21 : decode cX3_init 21 = .ok (.bipush 10, 2) := by decide +kernel
theorem dX3_init_23 : decode cX3_init 23 = .ok (.newarray .int, 2) := by decide +kernel
theorem dX3_init_25 : decode cX3_init 25 = .ok (.putfield 18, 3) := by decide +kernel
theorem dX3_init_28 : decode cX3_init 28 = .ok (.aload_n 0, 1) := by decide +kernel
theorem dX3_init_29 : decode cX3_init 29 = .ok (.new 21, 3) := by decide +kernel
theorem dX3_init_32 : decode cX3_init 32 = .ok (.dup, 1) := by decide +kernel
theorem dX3_init_33 : decode cX3_init 33 = .ok (.bipush 10, 2) := by decide +kernel
theorem dX3_init_35 : decode cX3_init 35 = .ok (.bipush 12, 2) := by decide +kernel
theorem dX3_init_37 : decode cX3_init 37 = .ok (.invokespecial 23, 3) := by decide +kernel
theorem dX3_init_40 : decode cX3_init 40 = .ok (.putfield 26, 3) := by decide +kernel
theorem dX3_init_43 : decode cX3_init 43 = .ok (.aload_n 0, 1) := by decide +kernel
theorem dX3_init_44 : decode cX3_init 44 = .ok (.getfield 18, 3) := by decide +kernel
theorem dX3_init_47 : decode cX3_init 47 = .ok (.iconst (-1), 1) := by decide +kernel
theorem dX3_init_48 : decode cX3_init 48 = .ok (.invokestatic 30, 3) := by decide +kernel
theorem dX3_init_51 : decode cX3_init 51 = .ok (.return_, 1) := by decide +kernel
set_option maxRecDepth 20000 in
theorem ggX3_isFreeFor_X2_item : GoodIn wsX3_isFreeFor wsX2_item := goodIn_r _ [7, 8, 9, 10, 11, 12, 6, 13, 14, 19, 20, 21] (by decide +kernel) (by decide +kernel)
set_option maxRecDepth 20000 in
theorem gX3_isFreeFor_X2_item : GoodIn wsX3_isFreeFor (wsV RX3 36 RX2 yX2_item wsX2_item) := goodIn_app (goodIn_of _ (by decide +kernel)) ggX3_isFreeFor_X2_item
theorem dX3_isFreeFor_0 : decode cX3_isFreeFor 0 = .ok (.aload_n 0, 1) := by decide +kernel
theorem dX3_isFreeFor_1 : decode cX3_isFreeFor 1 = .ok (.getfield 26, 3) := by decide +kernel
theorem dX3_isFreeFor_4 : decode cX3_isFreeFor 4 = .ok (.iload_n 1, 1) := by decide +kernel
theorem dX3_isFreeFor_5 : decode cX3_isFreeFor 5 = .ok (.iconst 0, 1) := by decide +kernel
theorem dX3_isFreeFor_6 : decode cX3_isFreeFor 6 = .ok (.invokevirtual 36, 3) := by decide +kernel
theorem dX3_isFreeFor_9 : decode cX3_isFreeFor 9 = .ok (.istore_n 3, 1) := by decide +kernel
theorem dX3_isFreeFor_10 : decode cX3_isFreeFor 10 = .ok (.aload_n 0, 1) := by decide +kernel
theorem dX3_isFreeFor_11 : decode cX3_isFreeFor 11 = .ok (.getfield 18, 3) := by decide +kernel
theorem dX3_isFreeFor_14 : decode cX3_isFreeFor 14 = .ok (.iload_n 1, 1) := by decide +kernel
theorem dX3_isFreeFor_15 : decode cX3_isFreeFor 15 = .ok (.iaload, 1) := by decide +kernel
theorem dX3_isFreeFor_16 : decode cX3_isFreeFor 16 = .ok (.iconst (-1), 1) := by decide +kernel
theorem dX3_isFreeFor_17 : decode cX3_isFreeFor 17 = .ok (.if_icmp .ne 17, 3) := by decide +kernel
theorem dX3_isFreeFor_20 : decode cX3_isFreeFor 20 = .ok (.iload_n 3, 1) := by decide +kernel
theorem dX3_isFreeFor_21 : decode cX3_isFreeFor 21 = .ok (.iconst (-1), 1) := by decide +kernel
theorem dX3_isFreeFor_22 : decode cX3_isFreeFor 22 = .ok (.if_icmp .eq 8, 3) := by decide +kernel
theorem dX3_isFreeFor_25 : decode cX3_isFreeFor 25 = .ok (.iload_n 3, 1) := by decide +kernel
theorem dX3_isFreeFor_26 : decode cX3_isFreeFor 26 = .ok (.iload_n 2, 1) := by decide +kernel
theorem dX3_isFreeFor_27 : decode cX3_isFreeFor 27 = .ok (.if_icmp .ne 7, 3) := by decide +kernel
theorem dX3_isFreeFor_30 : decode cX3_isFreeFor 30 = .ok (.iconst 1, 1) := by decide +kernel
theorem dX3_isFreeFor_31 : decode cX3_isFreeFor 31 = .ok (.goto 4, 3) := by decide +kernel
theorem dX3_isFreeFor_34 : decode cX3_isFreeFor 34 = .ok (.iconst 0, 1) := by decide +kernel
theorem dX3_isFreeFor_35 : decode cX3_isFreeFor 35 = .ok (.ireturn, 1) := by decide +kernel
set_option maxRecDepth 20000 in
theorem ggX3_take_X2_remove : GoodIn wsX3_take wsX2_remove := goodIn_r _ [9, 10, 11, 12, 13, 14, 15, 8, 16, 17, 18, 19, 20, 25, 26, 27] (by decide +kernel) (by decide +kernel)
set_option maxRecDepth 20000 in
theorem gX3_take_X2_remove : GoodIn wsX3_take (wsV RX3 40 RX2 yX2_remove wsX2_remove) := goodIn_app (goodIn_of _ (by decide +kernel)) ggX3_take_X2_remove
theorem dX3_take_0 : decode cX3_take 0 = .ok (.aload_n 0, 1) := by decide +kernel
theorem dX3_take_1 : decode cX3_take 1 = .ok (.getfield 26, 3) := by decide +kernel
theorem dX3_take_4 : decode cX3_take 4 = .ok (.iload_n 1, 1) := by decide +kernel
theorem dX3_take_5 : decode cX3_take 5 = .ok (.iload_n 2, 1) := by decide +kernel
theorem dX3_take_6 : decode cX3_take 6 = .ok (.invokevirtual 40, 3) := by decide +kernel
theorem dX3_take_9 : decode cX3_take 9 = .ok (.aload_n 0, 1) := by decide +kernel
theorem dX3_take_10 : decode cX3_take 10 = .ok (.getfield 18, 3) := by decide +kernel
theorem dX3_take_13 : decode cX3_take 13 = .ok (.iload_n 1, 1) := by decide +kernel
theorem dX3_take_14 : decode cX3_take 14 = .ok (.iload_n 2, 1) := by decide +kernel
theorem dX3_take_15 : decode cX3_take 15 = .ok (.iastore, 1) := by decide +kernel
theorem dX3_take_16 : decode cX3_take 16 = .ok (.aload_n 0, 1) := by decide +kernel
theorem dX3_take_17 : decode cX3_take 17 = .ok (.getfield 15, 3) := by decide +kernel
theorem dX3_take_20 : decode cX3_take 20 = .ok (.iload_n 1, 1) := by decide +kernel
theorem dX3_take_21 : decode cX3_take 21 = .ok (.aload_n 0, 1) := by decide +kernel
theorem dX3_take_22 : decode cX3_take 22 = .ok (.getfield 9, 3) := by decide +kernel
theorem dX3_take_25 : decode cX3_take 25 = .ok (.iload_n 1, 1) := by decide +kernel
theorem dX3_take_26 : decode cX3_take 26 = .ok (.iaload, 1) := by decide +kernel
theorem dX3_take_27 : decode cX3_take 27 = .ok (.iastore, 1) := by decide +kernel
theorem dX3_take_28 : decode cX3_take 28 = .ok (.return_, 1) := by decide +kernel
set_option maxRecDepth 20000 in
theorem ggX3_standInLine_X2_placeOf : GoodIn wsX3_standInLine wsX2_placeOf := goodIn_r _ [6, 7, 8, 9, 10, 11, 5, 12, 13, 22, 23, 24] (by decide +kernel) (by decide +kernel)
set_option maxRecDepth 20000 in
theorem gX3_standInLine_X2_placeOf : GoodIn wsX3_standInLine (wsV RX3 43 RX2 yX2_placeOf wsX2_placeOf) := goodIn_app (goodIn_of _ (by decide +kernel)) ggX3_standInLine_X2_placeOf
set_option maxRecDepth 20000 in
theorem ggX3_standInLine_X2_add : GoodIn wsX3_standInLine wsX2_add := goodIn_r _ [17, 13, 8, 7, 22, 23, 24] (by decide +kernel) (by decide +kernel)
set_option maxRecDepth 20000 in
theorem gX3_standInLine_X2_add : GoodIn wsX3_standInLine (wsV RX3 46 RX2 yX2_add wsX2_add) := goodIn_app (goodIn_of _ (by decide +kernel)) ggX3_standInLine_X2_add
theorem dX3_standInLine_0 : decode cX3_standInLine 0 = .ok (.aload_n 0, 1) := by decide +kernel
theorem dX3_standInLine_1 : decode cX3_standInLine 1 = .ok (.getfield 26, 3) := by decide +kernel
theorem dX3_standInLine_4 : decode cX3_standInLine 4 = .ok (.iload_n 1, 1) := by decide +kernel
theorem dX3_standInLine_5 : decode cX3_standInLine 5 = .ok (.iload_n 2, 1) := by decide +kernel
theorem dX3_standInLine_6 : decode cX3_standInLine 6 = .ok (.invokevirtual 43, 3) := by decide +kernel
theorem dX3_standInLine_9 : decode cX3_standInLine 9 = .ok (.iconst (-1), 1) := by decide +kernel
theorem dX3_standInLine_10 : decode cX3_standInLine 10 = .ok (.if_icmp .ne 13, 3) := by decide +kernel
theorem dX3_standInLine_13 : decode cX3_standInLine 13 = .ok (.aload_n 0, 1) := by decide +kernel
theorem dX3_standInLine_14 : decode cX3_standInLine 14 = .ok (.getfield 26, 3) := by decide +kernel
theorem dX3_standInLine_17 : decode cX3_standInLine 17 = .ok (.iload_n 1, 1) := by decide +kernel
theorem dX3_standInLine_18 : decode cX3_standInLine 18 = .ok (.iload_n 2, 1) := by decide +kernel
theorem dX3_standInLine_19 : decode cX3_standInLine 19 = .ok (.invokevirtual 46, 3) := by decide +kernel
theorem dX3_standInLine_22 : decode cX3_standInLine 22 = .ok (.pop, 1) := by decide +kernel
theorem dX3_standInLine_23 : decode cX3_standInLine 23 = .ok (.return_, 1) := by decide +kernel
theorem dX3_change_0 : decode cX3_change 0 = .ok (.iconst 0, 1) := by decide +kernel
theorem dX3_change_1 : decode cX3_change 1 = .ok (.istore_n 3, 1) := by decide +kernel
theorem dX3_change_2 : decode cX3_change 2 = .ok (.iload_n 3, 1) := by decide +kernel
theorem dX3_change_3 : decode cX3_change 3 = .ok (.bipush 10, 2) := by decide +kernel
theorem dX3_change_5 : decode cX3_change 5 = .ok (.if_icmp .ge 40, 3) := by decide +kernel
theorem dX3_change_8 : decode cX3_change 8 = .ok (.aload_n 0, 1) := by decide +kernel
theorem dX3_change_9 : decode cX3_change 9 = .ok (.getfield 18, 3) := by decide +kernel
theorem dX3_change_12 : decode cX3_change 12 = .ok (.iload_n 3, 1) := by decide +kernel
theorem dX3_change_13 : decode cX3_change 13 = .ok (.iaload, 1) := by decide +kernel
theorem dX3_change_14 : decode cX3_change 14 = .ok (.iload_n 1, 1) := by decide +kernel
theorem dX3_change_15 : decode cX3_change 15 = .ok (.if_icmp .ne 24, 3) := by decide +kernel
theorem dX3_change_18 : decode cX3_change 18 = .ok (.aload_n 0, 1) := by decide +kernel
theorem dX3_change_19 : decode cX3_change 19 = .ok (.getfield 9, 3) := by decide +kernel
theorem dX3_change_22 : decode cX3_change 22 = .ok (.iload_n 3, 1) := by decide +kernel
theorem dX3_change_23 : decode cX3_change 23 = .ok (.aload_n 0, 1) := by decide +kernel
theorem dX3_change_24 : decode cX3_change 24 = .ok (.getfield 9, 3) := by decide +kernel
theorem dX3_change_27 : decode cX3_change 27 = .ok (.iload_n 3, 1) := by decide +kernel
theorem dX3_change_28 : decode cX3_change 28 = .ok (.iaload, 1) := by decide +kernel
theorem dX3_change_29 : decode cX3_change 29 = .ok (.iconst 3, 1) := by decide +kernel
theorem dX3_change_30 : decode cX3_change 30 = .ok (.imul, 1) := by decide +kernel
theorem dX3_change_31 : decode cX3_change 31 = .ok (.iload_n 1, 1) := by decide +kernel
theorem dX3_change_32 : decode cX3_change 32 = .ok (.iadd, 1) := by decide +kernel
theorem dX3_change_33 : decode cX3_change 33 = .ok (.bipush 10, 2) := by decide +kernel
theorem dX3_change_35 : decode cX3_change 35 = .ok (.iload_n 2, 1) := by decide +kernel
theorem dX3_change_36 : decode cX3_change 36 = .ok (.imul, 1) := by decide +kernel
theorem dX3_change_37 : decode cX3_change 37 = .ok (.iadd, 1) := by decide +kernel
theorem dX3_change_38 : decode cX3_change 38 = .ok (.iastore, 1) := by decide +kernel
theorem dX3_change_39 : decode cX3_change 39 = .ok (.iinc 3 1, 3) := by decide +kernel
theorem dX3_change_42 : decode cX3_change 42 = .ok (.goto (-40), 3) := by decide +kernel
theorem dX3_change_45 : decode cX3_change 45 = .ok (.return_, 1) := by decide +kernel
theorem dX3_restore_0 : decode cX3_restore 0 = .ok (.iconst 0, 1) := by decide +kernel
theorem dX3_restore_1 : decode cX3_restore 1 = .ok (.istore_n 2, 1) := by decide +kernel
theorem dX3_restore_2 : decode cX3_restore 2 = .ok (.iload_n 2, 1) := by decide +kernel
theorem dX3_restore_3 : decode cX3_restore 3 = .ok (.bipush 10, 2) := by decide +kernel
theorem dX3_restore_5 : decode cX3_restore 5 = .ok (.if_icmp .ge 31, 3) := by decide +kernel
theorem dX3_restore_8 : decode cX3_restore 8 = .ok (.aload_n 0, 1) := by decide +kernel
theorem dX3_restore_9 : decode cX3_restore 9 = .ok (.getfield 18, 3) := by decide +kernel
theorem dX3_restore_12 : decode cX3_restore 12 = .ok (.iload_n 2, 1) := by decide +kernel
theorem dX3_restore_13 : decode cX3_restore 13 = .ok (.iaload, 1) := by decide +kernel
theorem dX3_restore_14 : decode cX3_restore 14 = .ok (.iload_n 1, 1) := by decide +kernel
theorem dX3_restore_15 : decode cX3_restore 15 = .ok (.if_icmp .ne 15, 3) := by decide +kernel
theorem dX3_restore_18 : decode cX3_restore 18 = .ok (.aload_n 0, 1) := by decide +kernel
theorem dX3_restore_19 : decode cX3_restore 19 = .ok (.getfield 9, 3) := by decide +kernel
theorem dX3_restore_22 : decode cX3_restore 22 = .ok (.iload_n 2, 1) := by decide +kernel
theorem dX3_restore_23 : decode cX3_restore 23 = .ok (.aload_n 0, 1) := by decide +kernel
theorem dX3_restore_24 : decode cX3_restore 24 = .ok (.getfield 15, 3) := by decide +kernel
theorem dX3_restore_27 : decode cX3_restore 27 = .ok (.iload_n 2, 1) := by decide +kernel
theorem dX3_restore_28 : decode cX3_restore 28 = .ok (.iaload, 1) := by decide +kernel
theorem dX3_restore_29 : decode cX3_restore 29 = .ok (.iastore, 1) := by decide +kernel
theorem dX3_restore_30 : decode cX3_restore 30 = .ok (.iinc 2 1, 3) := by decide +kernel
theorem dX3_restore_33 : decode cX3_restore 33 = .ok (.goto (-31), 3) := by decide +kernel
theorem dX3_restore_36 : decode cX3_restore 36 = .ok (.return_, 1) := by decide +kernel
set_option maxRecDepth 20000 in
theorem ggX3_release_X2_remove : GoodIn wsX3_release wsX2_remove := goodIn_r _ [7, 8, 9, 10, 11, 12, 13, 6, 14, 15, 16, 17, 18, 23, 24, 25] (by decide +kernel) (by decide +kernel)
set_option maxRecDepth 20000 in
theorem gX3_release_X2_remove : GoodIn wsX3_release (wsV RX3 40 RX2 yX2_remove wsX2_remove) := goodIn_app (goodIn_of _ (by decide +kernel)) ggX3_release_X2_remove
theorem dX3_release_0 : decode cX3_release 0 = .ok (.iconst 0, 1) := by decide +kernel
theorem dX3_release_1 : decode cX3_release 1 = .ok (.istore_n 2, 1) := by decide +kernel
theorem dX3_release_2 : decode cX3_release 2 = .ok (.iload_n 2, 1) := by decide +kernel
theorem dX3_release_3 : decode cX3_release 3 = .ok (.bipush 10, 2) := by decide +kernel
theorem dX3_release_5 : decode cX3_release 5 = .ok (.if_icmp .ge 35, 3) := by decide +kernel
theorem dX3_release_8 : decode cX3_release 8 = .ok (.aload_n 0, 1) := by decide +kernel
theorem dX3_release_9 : decode cX3_release 9 = .ok (.getfield 26, 3) := by decide +kernel
theorem dX3_release_12 : decode cX3_release 12 = .ok (.iload_n 2, 1) := by decide +kernel
theorem dX3_release_13 : decode cX3_release 13 = .ok (.iload_n 1, 1) := by decide +kernel
theorem dX3_release_14 : decode cX3_release 14 = .ok (.invokevirtual 40, 3) := by decide +kernel
theorem dX3_release_17 : decode cX3_release 17 = .ok (.aload_n 0, 1) := by decide +kernel
theorem dX3_release_18 : decode cX3_release 18 = .ok (.getfield 18, 3) := by decide +kernel
theorem dX3_release_21 : decode cX3_release 21 = .ok (.iload_n 2, 1) := by decide +kernel
theorem dX3_release_22 : decode cX3_release 22 = .ok (.iaload, 1) := by decide +kernel
theorem dX3_release_23 : decode cX3_release 23 = .ok (.iload_n 1, 1) := by decide +kernel
theorem dX3_release_24 : decode cX3_release 24 = .ok (.if_icmp .ne 10, 3) := by decide +kernel
theorem dX3_release_27 : decode cX3_release 27 = .ok (.aload_n 0, 1) := by decide +kernel
theorem dX3_release_28 : decode cX3_release 28 = .ok (.getfield 18, 3) := by decide +kernel
theorem dX3_release_31 : decode cX3_release 31 = .ok (.iload_n 2, 1) := by decide +kernel
theorem dX3_release_32 : decode cX3_release 32 = .ok (.iconst (-1), 1) := by decide +kernel
theorem dX3_release_33 : decode cX3_release 33 = .ok (.iastore, 1) := by decide +kernel
theorem dX3_release_34 : decode cX3_release 34 = .ok (.iinc 2 1, 3) := by decide +kernel
theorem dX3_release_37 : decode cX3_release 37 = .ok (.goto (-35), 3) := by decide +kernel
theorem dX3_release_40 : decode cX3_release 40 = .ok (.return_, 1) := by decide +kernel
theorem dX3_countOf_0 : decode cX3_countOf 0 = .ok (.iconst 0, 1) := by decide +kernel
theorem dX3_countOf_1 : decode cX3_countOf 1 = .ok (.istore_n 2, 1) := by decide +kernel
theorem dX3_countOf_2 : decode cX3_countOf 2 = .ok (.iconst 0, 1) := by decide +kernel
theorem dX3_countOf_3 : decode cX3_countOf 3 = .ok (.istore_n 3, 1) := by decide +kernel
theorem dX3_countOf_4 : decode cX3_countOf 4 = .ok (.iload_n 3, 1) := by decide +kernel
theorem dX3_countOf_5 : decode cX3_countOf 5 = .ok (.bipush 10, 2) := by decide +kernel
theorem dX3_countOf_7 : decode cX3_countOf 7 = .ok (.if_icmp .ge 27, 3) := by decide +kernel
theorem dX3_countOf_10 : decode cX3_countOf 10 = .ok (.iload_n 2, 1) := by decide +kernel
theorem dX3_countOf_11 : decode cX3_countOf 11 = .ok (.aload_n 0, 1) := by decide +kernel
theorem dX3_countOf_12 : decode cX3_countOf 12 = .ok (.getfield 18, 3) := by decide +kernel
theorem dX3_countOf_15 : decode cX3_countOf 15 = .ok (.iload_n 3, 1) := by decide +kernel
theorem dX3_countOf_16 : decode cX3_countOf 16 = .ok (.iaload, 1) := by decide +kernel
theorem dX3_countOf_17 : decode cX3_countOf 17 = .ok (.iload_n 1, 1) := by decide +kernel
theorem dX3_countOf_18 : decode cX3_countOf 18 = .ok (.if_icmp .ne 7, 3) := by decide +kernel
theorem dX3_countOf_21 : decode cX3_countOf 21 = .ok (.iconst 1, 1) := by decide +kernel
theorem dX3_countOf_22 : decode cX3_countOf 22 = .ok (.goto 4, 3) := by decide +kernel
theorem dX3_countOf_25 : decode cX3_countOf 25 = .ok (.iconst 0, 1) := by decide +kernel
theorem dX3_countOf_26 : decode cX3_countOf 26 = .ok (.iadd, 1) := by decide +kernel
theorem dX3_countOf_27 : decode cX3_countOf 27 = .ok (.istore_n 2, 1) := by decide +kernel
theorem dX3_countOf_28 : decode cX3_countOf 28 = .ok (.iinc 3 1, 3) := by decide +kernel
theorem dX3_countOf_31 : decode cX3_countOf 31 = .ok (.goto (-27), 3) := by decide +kernel
theorem dX3_countOf_34 : decode cX3_countOf 34 = .ok (.iload_n 2, 1) := by decide +kernel
theorem dX3_countOf_35 : decode cX3_countOf 35 = .ok (.ireturn, 1) := by decide +kernel
set_option maxRecDepth 20000 in
theorem ggX3_holderAwaitedBy_X2_placeOf : GoodIn wsX3_holderAwaitedBy wsX2_placeOf := goodIn_r _ [7, 8, 9, 10, 11, 12, 6, 13, 14, 19, 20, 21] (by decide +kernel) (by decide +kernel)
set_option maxRecDepth 20000 in
theorem gX3_holderAwaitedBy_X2_placeOf : GoodIn wsX3_holderAwaitedBy (wsV RX3 43 RX2 yX2_placeOf wsX2_placeOf) := goodIn_app (goodIn_of _ (by decide +kernel)) ggX3_holderAwaitedBy_X2_placeOf
theorem dX3_holderAwaitedBy_0 : decode cX3_holderAwaitedBy 0 = .ok (.iconst 0, 1) := by decide +kernel
theorem dX3_holderAwaitedBy_1 : decode cX3_holderAwaitedBy 1 = .ok (.istore_n 2, 1) := by decide +kernel
theorem dX3_holderAwaitedBy_2 : decode cX3_holderAwaitedBy 2 = .ok (.iload_n 2, 1) := by decide +kernel
theorem dX3_holderAwaitedBy_3 : decode cX3_holderAwaitedBy 3 = .ok (.bipush 10, 2) := by decide +kernel
theorem dX3_holderAwaitedBy_5 : decode cX3_holderAwaitedBy 5 = .ok (.if_icmp .ge 29, 3) := by decide +kernel
theorem dX3_holderAwaitedBy_8 : decode cX3_holderAwaitedBy 8 = .ok (.aload_n 0, 1) := by decide +kernel
theorem dX3_holderAwaitedBy_9 : decode cX3_holderAwaitedBy 9 = .ok (.getfield 26, 3) := by decide +kernel
theorem dX3_holderAwaitedBy_12 : decode cX3_holderAwaitedBy 12 = .ok (.iload_n 2, 1) := by decide +kernel
theorem dX3_holderAwaitedBy_13 : decode cX3_holderAwaitedBy 13 = .ok (.iload_n 1, 1) := by decide +kernel
theorem dX3_holderAwaitedBy_14 : decode cX3_holderAwaitedBy 14 = .ok (.invokevirtual 43, 3) := by decide +kernel
theorem dX3_holderAwaitedBy_17 : decode cX3_holderAwaitedBy 17 = .ok (.iconst (-1), 1) := by decide +kernel
theorem dX3_holderAwaitedBy_18 : decode cX3_holderAwaitedBy 18 = .ok (.if_icmp .eq 10, 3) := by decide +kernel
theorem dX3_holderAwaitedBy_21 : decode cX3_holderAwaitedBy 21 = .ok (.aload_n 0, 1) := by decide +kernel
theorem dX3_holderAwaitedBy_22 : decode cX3_holderAwaitedBy 22 = .ok (.getfield 18, 3) := by decide +kernel
theorem dX3_holderAwaitedBy_25 : decode cX3_holderAwaitedBy 25 = .ok (.iload_n 2, 1) := by decide +kernel
theorem dX3_holderAwaitedBy_26 : decode cX3_holderAwaitedBy 26 = .ok (.iaload, 1) := by decide +kernel
theorem dX3_holderAwaitedBy_27 : decode cX3_holderAwaitedBy 27 = .ok (.ireturn, 1) := by decide +kernel
theorem dX3_holderAwaitedBy_28 : decode cX3_holderAwaitedBy 28 = .ok (.iinc 2 1, 3) := by decide +kernel
theorem dX3_holderAwaitedBy_31 : decode cX3_holderAwaitedBy 31 = .ok (.goto (-29), 3) := by decide +kernel
theorem dX3_holderAwaitedBy_34 : decode cX3_holderAwaitedBy 34 = .ok (.iconst (-1), 1) := by decide +kernel
theorem dX3_holderAwaitedBy_35 : decode cX3_holderAwaitedBy 35 = .ok (.ireturn, 1) := by decide +kernel
set_option maxRecDepth 20000 in
theorem ggX4_init_X2_init : GoodIn wsX4_init wsX2_init := goodIn_r _ [15, 16, 2, 3, 17, 18, 19, 20, 21, 22, 23] (by decide +kernel) (by decide +kernel)
set_option maxRecDepth 20000 in
theorem gX4_init_X2_init : GoodIn wsX4_init (wsX2_init) := ggX4_init_X2_init
theorem dX4_init_0 : decode cX4_init 0 = .ok (.aload_n 0, 1) := by decide +kernel
theorem dX4_init_1 : decode cX4_init 1 = .ok (.invokespecial 3, 3) := by decide +kernel
theorem dX4_init_4 : decode cX4_init 4 = .ok (.aload_n 0, 1) := by decide +kernel
theorem dX4_init_5 : decode cX4_init 5 = .ok (.new 9, 3) := by decide +kernel
theorem dX4_init_8 : decode cX4_init 8 = .ok (.dup, 1) := by decide +kernel
theorem dX4_init_9 : decode cX4_init 9 = .ok (.bipush 10, 2) := by decide +kernel
theorem dX4_init_11 : decode cX4_init 11 = .ok (.iconst 4, 1) := by decide +kernel
theorem dX4_init_12 : decode cX4_init 12 = .ok (.invokespecial 11, 3) := by decide +kernel
theorem dX4_init_15 : decode cX4_init 15 = .ok (.putfield 14, 3) := by decide +kernel
theorem dX4_init_18 : decode cX4_init 18 = .ok (.aload_n 0, 1) := by decide +kernel
theorem dX4_init_19 : decode cX4_init 19 = .ok (.new 9, 3) := by decide +kernel
theorem dX4_init_22 : decode cX4_init 22 = .ok (.dup, 1) := by decide +kernel
theorem dX4_init_23 : decode cX4_init 23 = .ok (.bipush 10, 2) := by decide +kernel
theorem dX4_init_25 : decode cX4_init 25 = .ok (.iconst 2, 1) := by decide +kernel
theorem dX4_init_26 : decode cX4_init 26 = .ok (.invokespecial 11, 3) := by decide +kernel
theorem dX4_init_29 : decode cX4_init 29 = .ok (.putfield 20, 3) := by decide +kernel
theorem dX4_init_32 : decode cX4_init 32 = .ok (.aload_n 0, 1) := by decide +kernel
theorem dX4_init_33 : decode cX4_init 33 = .ok (.iconst (-1), 1) := by decide +kernel
theorem dX4_init_34 : decode cX4_init 34 = .ok (.putfield 23, 3) := by decide +kernel
theorem dX4_init_37 : decode cX4_init 37 = .ok (.aload_n 0, 1) := by decide +kernel
theorem dX4_init_38 : decode cX4_init 38 = .ok (.iconst 0, 1) := by decide +kernel
theorem dX4_init_39 : decode cX4_init 39 = .ok (.putfield 27, 3) := by decide +kernel
theorem dX4_init_42 : decode cX4_init 42 = .ok (.aload_n 0, 1) := by decide +kernel
theorem dX4_init_43 : decode cX4_init 43 = .ok (.iconst 0, 1) := by decide +kernel
theorem dX4_init_44 : decode cX4_init 44 = .ok (.putfield 30, 3) := by decide +kernel
theorem dX4_init_47 : decode cX4_init 47 = .ok (.aload_n 0, 1) := by decide +kernel
theorem dX4_init_48 : decode cX4_init 48 = .ok (.iload_n 1, 1) := by decide +kernel
theorem dX4_init_49 : decode cX4_init 49 = .ok (.putfield 33, 3) := by decide +kernel
theorem dX4_init_52 : decode cX4_init 52 = .ok (.return_, 1) := by decide +kernel
theorem dX4_isStep_0 : decode cX4_isStep 0 = .ok (.iload_n 1, 1) := by decide +kernel
theorem dX4_isStep_1 : decode cX4_isStep 1 = .ok (.ifCond .lt 15, 3) := by decide +kernel
theorem dX4_isStep_4 : decode cX4_isStep 4 = .ok (.iload_n 1, 1) := by decide +kernel
theorem dX4_isStep_5 : decode cX4_isStep 5 = .ok (.aload_n 0, 1) := by decide +kernel
theorem dX4_isStep_6 : decode cX4_isStep 6 = .ok (.getfield 36, 3) := by decide +kernel
theorem dX4_isStep_9 : decode cX4_isStep 9 = .ok (.if_icmp .ge 7, 3) := by decide +kernel
theorem dX4_isStep_12 : decode cX4_isStep 12 = .ok (.iconst 1, 1) := by decide +kernel
theorem dX4_isStep_13 : decode cX4_isStep 13 = .ok (.goto 4, 3) := by decide +kernel
theorem dX4_isStep_16 : decode cX4_isStep 16 = .ok (.iconst 0, 1) := by decide +kernel
theorem dX4_isStep_17 : decode cX4_isStep 17 = .ok (.ireturn, 1) := by decide +kernel
set_option maxRecDepth 20000 in
theorem ggX4_gotAll_X2_count : GoodIn wsX4_gotAll wsX2_count := goodIn_r _ [8, 9, 22, 23, 24] (by decide +kernel) (by decide +kernel)
set_option maxRecDepth 20000 in
theorem gX4_gotAll_X2_count : GoodIn wsX4_gotAll (wsV RX4 45 RX2 yX2_count wsX2_count) := goodIn_app (goodIn_of _ (by decide +kernel)) ggX4_gotAll_X2_count
theorem dX4_gotAll_0 : decode cX4_gotAll 0 = .ok (.aload_n 0, 1) := by decide +kernel
theorem dX4_gotAll_1 : decode cX4_gotAll 1 = .ok (.getfield 39, 3) := by decide +kernel
theorem dX4_gotAll_4 : decode cX4_gotAll 4 = .ok (.aload_n 0, 1) := by decide +kernel
theorem dX4_gotAll_5 : decode cX4_gotAll 5 = .ok (.getfield 14, 3) := by decide +kernel
theorem dX4_gotAll_8 : decode cX4_gotAll 8 = .ok (.aload_n 0, 1) := by decide +kernel
theorem dX4_gotAll_9 : decode cX4_gotAll 9 = .ok (.getfield 42, 3) := by decide +kernel
theorem dX4_gotAll_12 : decode cX4_gotAll 12 = .ok (.invokevirtual 45, 3) := by decide +kernel
theorem dX4_gotAll_15 : decode cX4_gotAll 15 = .ok (.if_icmp .lt 7, 3) := by decide +kernel
theorem dX4_gotAll_18 : decode cX4_gotAll 18 = .ok (.iconst 1, 1) := by decide +kernel
theorem dX4_gotAll_19 : decode cX4_gotAll 19 = .ok (.goto 4, 3) := by decide +kernel
theorem dX4_gotAll_22 : decode cX4_gotAll 22 = .ok (.iconst 0, 1) := by decide +kernel
theorem dX4_gotAll_23 : decode cX4_gotAll 23 = .ok (.ireturn, 1) := by decide +kernel
theorem dX4_beginAgain_0 : decode cX4_beginAgain 0 = .ok (.aload_n 0, 1) := by decide +kernel
theorem dX4_beginAgain_1 : decode cX4_beginAgain 1 = .ok (.iconst 0, 1) := by decide +kernel
theorem dX4_beginAgain_2 : decode cX4_beginAgain 2 = .ok (.putfield 27, 3) := by decide +kernel
theorem dX4_beginAgain_5 : decode cX4_beginAgain 5 = .ok (.aload_n 0, 1) := by decide +kernel
theorem dX4_beginAgain_6 : decode cX4_beginAgain 6 = .ok (.iconst 0, 1) := by decide +kernel
theorem dX4_beginAgain_7 : decode cX4_beginAgain 7 = .ok (.putfield 42, 3) := by decide +kernel
theorem dX4_beginAgain_10 : decode cX4_beginAgain 10 = .ok (.aload_n 0, 1) := by decide +kernel
theorem dX4_beginAgain_11 : decode cX4_beginAgain 11 = .ok (.iconst 0, 1) := by decide +kernel
theorem dX4_beginAgain_12 : decode cX4_beginAgain 12 = .ok (.putfield 39, 3) := by decide +kernel
theorem dX4_beginAgain_15 : decode cX4_beginAgain 15 = .ok (.aload_n 0, 1) := by decide +kernel
theorem dX4_beginAgain_16 : decode cX4_beginAgain 16 = .ok (.iconst (-1), 1) := by decide +kernel
theorem dX4_beginAgain_17 : decode cX4_beginAgain 17 = .ok (.putfield 23, 3) := by decide +kernel
theorem dX4_beginAgain_20 : decode cX4_beginAgain 20 = .ok (.aload_n 0, 1) := by decide +kernel
theorem dX4_beginAgain_21 : decode cX4_beginAgain 21 = .ok (.iconst 0, 1) := by decide +kernel
theorem dX4_beginAgain_22 : decode cX4_beginAgain 22 = .ok (.putfield 30, 3) := by decide +kernel
theorem dX4_beginAgain_25 : decode cX4_beginAgain 25 = .ok (.aload_n 0, 1) := by decide +kernel
theorem dX4_beginAgain_26 : decode cX4_beginAgain 26 = .ok (.dup, 1) := by decide +kernel
theorem dX4_beginAgain_27 : decode cX4_beginAgain 27 = .ok (.getfield 49, 3) := by decide +kernel
theorem dX4_beginAgain_30 : decode cX4_beginAgain 30 = .ok (.iconst 1, 1) := by decide +kernel
theorem dX4_beginAgain_31 : decode cX4_beginAgain 31 = .ok (.iadd, 1) := by decide +kernel
theorem dX4_beginAgain_32 : decode cX4_beginAgain 32 = .ok (.putfield 49, 3) := by decide +kernel
theorem dX4_beginAgain_35 : decode cX4_beginAgain 35 = .ok (.return_, 1) := by decide +kernel
set_option maxRecDepth 20000 in
theorem ggX5_init_X3_init : GoodIn wsX5_init wsX3_init := goodIn_r _ [22, 23, 2, 3, 24, 25, 26, 27, 28, 29, 30, 31, 32, 33, 34, 35, 36, 37, 38, 39, 40, 41, 42, 71, 72, 73, 74, 91, 92, 93] (by decide +kernel) (by decide +kernel)
set_option maxRecDepth 20000 in
theorem gX5_init_X3_init : GoodIn wsX5_init (wsX3_init) := ggX5_init_X3_init
set_option maxRecDepth 20000 in
theorem ggX5_init_X1_init : GoodIn wsX5_init wsX1_init := goodIn_r _ [44, 45, 2, 3, 24, 46, 47, 75, 76, 77] (by decide +kernel) (by decide +kernel)
set_option maxRecDepth 20000 in
theorem gX5_init_X1_init_n24 : GoodIn wsX5_init (wsX1_init) := ggX5_init_X1_init
set_option maxRecDepth 20000 in
theorem ggX5_init_X0_init : GoodIn wsX5_init wsX0_init := goodIn_r _ [49, 50, 2, 3, 51, 29, 30, 52, 53, 33, 34, 35, 36, 24, 37, 38, 91, 92, 93, 78] (by decide +kernel) (by decide +kernel)
set_option maxRecDepth 20000 in
theorem gX5_init_X0_init_n31 : GoodIn wsX5_init (wsX0_init) := ggX5_init_X0_init
set_option maxRecDepth 20000 in
theorem ggX5_init_X4_init : GoodIn wsX5_init wsX4_init := goodIn_r _ [56, 57, 2, 3, 58, 29, 30, 59, 60, 61, 62, 63, 64, 65, 33, 34, 35, 36, 24, 37, 38, 91, 92, 93, 79, 80, 81, 82, 83, 84, 85, 86, 87, 88, 89, 90] (by decide +kernel) (by decide +kernel)
set_option maxRecDepth 20000 in
theorem gX5_init_X4_init : GoodIn wsX5_init (wsX4_init) := ggX5_init_X4_init
theorem dX5_init_0 : decode cX5_init 0 = .ok (.aload_n 0, 1) := by decide +kernel
theorem dX5_init_1 : decode cX5_init 1 = .ok (.invokespecial 1, 3) := by decide +kernel
theorem dX5_init_4 : decode cX5_init 4 = .ok (.aload_n 0, 1) := by decide +kernel
theorem dX5_init_5 : decode cX5_init 5 = .ok (.bipush 12, 2) := by decide +kernel
theorem dX5_init_7 : decode cX5_init 7 = .ok (.anewarray 9, 3) := by decide +kernel
theorem dX5_init_10 : decode cX5_init 10 = .ok (.putfield 11, 3) := by decide +kernel
theorem dX5_init_13 : decode cX5_init 13 = .ok (.aload_n 0, 1) := by decide +kernel
theorem dX5_init_14 : decode cX5_init 14 = .ok (.new 15, 3) := by decide +kernel
theorem dX5_init_17 : decode cX5_init 17 = .ok (.dup, 1) := by decide +kernel
theorem dX5_init_18 : decode cX5_init 18 = .ok (.invokespecial 17, 3) := by decide +kernel
theorem dX5_init_21 : decode cX5_init 21 = .ok (.putfield 18, 3) := by decide +kernel
theorem dX5_init_24 : decode cX5_init 24 = .ok (.aload_n 0, 1) := by decide +kernel
theorem dX5_init_25 : decode cX5_init 25 = .ok (.new 22, 3) := by decide +kernel
theorem dX5_init_28 : decode cX5_init 28 = .ok (.dup, 1) := by decide +kernel
theorem dX5_init_29 : decode cX5_init 29 = .ok (.invokespecial 24, 3) := by decide +kernel
theorem dX5_init_32 : decode cX5_init 32 = .ok (.putfield 25, 3) := by decide +kernel
theorem dX5_init_35 : decode cX5_init 35 = .ok (.aload_n 0, 1) := by decide +kernel
theorem dX5_init_36 : decode cX5_init 36 = .ok (.new 29, 3) := by decide +kernel
theorem dX5_init_39 : decode cX5_init 39 = .ok (.dup, 1) := by decide +kernel
theorem dX5_init_40 : decode cX5_init 40 = .ok (.invokespecial 31, 3) := by decide +kernel
theorem dX5_init_43 : decode cX5_init 43 = .ok (.putfield 32, 3) := by decide +kernel
theorem dX5_init_46 : decode cX5_init 46 = .ok (.iconst 0, 1) := by decide +kernel
theorem dX5_init_47 : decode cX5_init 47 = .ok (.istore_n 1, 1) := by decide +kernel
theorem dX5_init_48 : decode cX5_init 48 = .ok (.iload_n 1, 1) := by decide +kernel
theorem dX5_init_49 : decode cX5_init 49 = .ok (.bipush 12, 2) := by decide +kernel
theorem dX5_init_51 : decode cX5_init 51 = .ok (.if_icmp .ge 23, 3) := by decide +kernel
theorem dX5_init_54 : decode cX5_init 54 = .ok (.aload_n 0, 1) := by decide +kernel
theorem dX5_init_55 : decode cX5_init 55 = .ok (.getfield 11, 3) := by decide +kernel
theorem dX5_init_58 : decode cX5_init 58 = .ok (.iload_n 1, 1) := by decide +kernel
theorem dX5_init_59 : decode cX5_init 59 = .ok (.new 9, 3) := by decide +kernel
theorem dX5_init_62 : decode cX5_init 62 = .ok (.dup, 1) := by decide +kernel
theorem dX5_init_63 : decode cX5_init 63 = .ok (.iload_n 1, 1) := by decide +kernel
theorem dX5_init_64 : decode cX5_init 64 = .ok (.invokespecial 36, 3) := by decide +kernel
theorem dX5_init_67 : decode cX5_init 67 = .ok (.aastore, 1) := by decide +kernel
theorem dX5_init_68 : decode cX5_init 68 = .ok (.iinc 1 1, 3) := by decide +kernel
theorem dX5_init_71 : decode cX5_init 71 = .ok (.goto (-23), 3) := by decide +kernel
theorem dX5_init_74 : decode cX5_init 74 = .ok (.return_, 1) := by decide +kernel
theorem dX5_work_0 : decode cX5_work 0 = .ok (.iload_n 1, 1) := by decide +kernel
theorem dX5_work_1 : decode cX5_work 1 = .ok (.iconst 1, 1) := by decide +kernel
theorem dX5_work_2 : decode cX5_work 2 = .ok (.if_icmp .lt 19, 3) := by decide +kernel
theorem dX5_work_5 : decode cX5_work 5 = .ok (.iload_n 1, 1) := by decide +kernel
theorem dX5_work_6 : decode cX5_work 6 = .ok (.bipush 10, 2) := by decide +kernel
theorem dX5_work_8 : decode cX5_work 8 = .ok (.if_icmp .gt 13, 3) := by decide +kernel
theorem dX5_work_11 : decode cX5_work 11 = .ok (.iload_n 2, 1) := by decide +kernel
theorem dX5_work_12 : decode cX5_work 12 = .ok (.iconst (-1), 1) := by decide +kernel
theorem dX5_work_13 : decode cX5_work 13 = .ok (.if_icmp .lt 8, 3) := by decide +kernel
theorem dX5_work_16 : decode cX5_work 16 = .ok (.iload_n 2, 1) := by decide +kernel
theorem dX5_work_17 : decode cX5_work 17 = .ok (.iload_n 1, 1) := by decide +kernel
theorem dX5_work_18 : decode cX5_work 18 = .ok (.if_icmp .lt 6, 3) := by decide +kernel
theorem dX5_work_21 : decode cX5_work 21 = .ok (.bipush (-2), 2) := by decide +kernel
theorem dX5_work_23 : decode cX5_work 23 = .ok (.ireturn, 1) := by decide +kernel
theorem dX5_work_24 : decode cX5_work 24 = .ok (.aload_n 0, 1) := by decide +kernel
theorem dX5_work_25 : decode cX5_work 25 = .ok (.getfield 39, 3) := by decide +kernel
theorem dX5_work_28 : decode cX5_work 28 = .ok (.bipush 12, 2) := by decide +kernel
theorem dX5_work_30 : decode cX5_work 30 = .ok (.if_icmp .lt 6, 3) := by decide +kernel
theorem dX5_work_33 : decode cX5_work 33 = .ok (.bipush (-4), 2) := by decide +kernel
theorem dX5_work_35 : decode cX5_work 35 = .ok (.ireturn, 1) := by decide +kernel
theorem dX5_work_36 : decode cX5_work 36 = .ok (.aload_n 0, 1) := by decide +kernel
theorem dX5_work_37 : decode cX5_work 37 = .ok (.getfield 11, 3) := by decide +kernel
theorem dX5_work_40 : decode cX5_work 40 = .ok (.aload_n 0, 1) := by decide +kernel
theorem dX5_work_41 : decode cX5_work 41 = .ok (.getfield 39, 3) := by decide +kernel
theorem dX5_work_44 : decode cX5_work 44 = .ok (.aaload, 1) := by decide +kernel
theorem dX5_work_45 : decode cX5_work 45 = .ok (.astore_n 3, 1) := by decide +kernel
theorem dX5_work_46 : decode cX5_work 46 = .ok (.aload_n 3, 1) := by decide +kernel
theorem dX5_work_47 : decode cX5_work 47 = .ok (.iload_n 1, 1) := by decide +kernel
theorem dX5_work_48 : decode cX5_work 48 = .ok (.putfield 43, 3) := by decide +kernel
theorem dX5_work_51 : decode cX5_work 51 = .ok (.aload_n 3, 1) := by decide +kernel
theorem dX5_work_52 : decode cX5_work 52 = .ok (.iload_n 2, 1) := by decide +kernel
theorem dX5_work_53 : decode cX5_work 53 = .ok (.putfield 46, 3) := by decide +kernel
theorem dX5_work_56 : decode cX5_work 56 = .ok (.aload_n 0, 1) := by decide +kernel
theorem dX5_work_57 : decode cX5_work 57 = .ok (.dup, 1) := by decide +kernel
theorem dX5_work_58 : decode cX5_work 58 = .ok (.getfield 39, 3) := by decide +kernel
theorem dX5_work_61 : decode cX5_work 61 = .ok (.iconst 1, 1) := by decide +kernel
theorem dX5_work_62 : decode cX5_work 62 = .ok (.iadd, 1) := by decide +kernel
theorem dX5_work_63 : decode cX5_work 63 = .ok (.putfield 39, 3) := by decide +kernel
theorem dX5_work_66 : decode cX5_work 66 = .ok (.aload_n 3, 1) := by decide +kernel
theorem dX5_work_67 : decode cX5_work 67 = .ok (.getfield 49, 3) := by decide +kernel
theorem dX5_work_70 : decode cX5_work 70 = .ok (.ireturn, 1) := by decide +kernel
set_option maxRecDepth 20000 in
theorem ggX5_wants_X5_find : GoodIn wsX5_wants wsX5_find := goodIn_r _ [5, 6, 7, 8, 9, 4, 10, 11, 45, 46, 47, 48, 49] (by decide +kernel) (by decide +kernel)
set_option maxRecDepth 20000 in
theorem gX5_wants_X5_find : GoodIn wsX5_wants (wsV RX5 52 RX5 yX5_find wsX5_find) := goodIn_app (goodIn_of _ (by decide +kernel)) ggX5_wants_X5_find
set_option maxRecDepth 20000 in
theorem ggX5_wants_X4_isStep : GoodIn wsX5_wants wsX4_isStep := goodIn_r _ [16, 17, 33, 34, 35, 36, 37, 38, 39, 40, 41, 42, 43, 44] (by decide +kernel) (by decide +kernel)
set_option maxRecDepth 20000 in
theorem gX5_wants_X4_isStep : GoodIn wsX5_wants (wsV RX5 56 RX4 yX4_isStep wsX4_isStep) := goodIn_app (goodIn_of _ (by decide +kernel)) ggX5_wants_X4_isStep
set_option maxRecDepth 20000 in
theorem ggX5_wants_X5_isOther : GoodIn wsX5_wants wsX5_isOther := goodIn_r _ [21, 7, 8, 9, 4, 10, 11, 45, 46, 47, 48, 49] (by decide +kernel) (by decide +kernel)
set_option maxRecDepth 20000 in
theorem gX5_wants_X5_isOther : GoodIn wsX5_wants (wsV RX5 60 RX5 yX5_isOther wsX5_isOther) := goodIn_app (goodIn_of _ (by decide +kernel)) ggX5_wants_X5_isOther
set_option maxRecDepth 20000 in
theorem ggX5_wants_X5_isCopy : GoodIn wsX5_wants wsX5_isCopy := goodIn_r _ [24] (by decide +kernel) (by decide +kernel)
set_option maxRecDepth 20000 in
theorem gX5_wants_X5_isCopy : GoodIn wsX5_wants (va_wsS RX5 64 yX5_isCopy wsX5_isCopy) := goodIn_app (goodIn_of _ (by decide +kernel)) ggX5_wants_X5_isCopy
set_option maxRecDepth 20000 in
theorem ggX5_wants_X2_add : GoodIn wsX5_wants wsX2_add := goodIn_r _ [29, 30, 31, 32, 50, 51, 52] (by decide +kernel) (by decide +kernel)
set_option maxRecDepth 20000 in
theorem gX5_wants_X2_add : GoodIn wsX5_wants (wsV RX5 75 RX2 yX2_add wsX2_add) := goodIn_app (goodIn_of _ (by decide +kernel)) ggX5_wants_X2_add
theorem dX5_wants_0 : decode cX5_wants 0 = .ok (.aload_n 0, 1) := by decide +kernel
theorem dX5_wants_1 : decode cX5_wants 1 = .ok (.iload_n 1, 1) := by decide +kernel
theorem dX5_wants_2 : decode cX5_wants 2 = .ok (.invokevirtual 52, 3) := by decide +kernel
theorem dX5_wants_5 : decode cX5_wants 5 = .ok (.astore 5, 2) := by decide +kernel
theorem dX5_wants_7 : decode cX5_wants 7 = .ok (.aload 5, 2) := by decide +kernel
theorem dX5_wants_9 : decode cX5_wants 9 = .ok (.ifnull 12, 3) := by decide +kernel
theorem dX5_wants_12 : decode cX5_wants 12 = .ok (.aload 5, 2) := by decide +kernel
theorem dX5_wants_14 : decode cX5_wants 14 = .ok (.iload_n 2, 1) := by decide +kernel
theorem dX5_wants_15 : decode cX5_wants 15 = .ok (.invokevirtual 56, 3) := by decide +kernel
theorem dX5_wants_18 : decode cX5_wants 18 = .ok (.ifCond .ne 5, 3) := by decide +kernel
theorem dX5_wants_21 : decode cX5_wants 21 = .ok (.iconst (-1), 1) := by decide +kernel
theorem dX5_wants_22 : decode cX5_wants 22 = .ok (.ireturn, 1) := by decide +kernel
theorem dX5_wants_23 : decode cX5_wants 23 = .ok (.iload_n 3, 1) := by decide +kernel
theorem dX5_wants_24 : decode cX5_wants 24 = .ok (.ifCond .eq 16, 3) := by decide +kernel
theorem dX5_wants_27 : decode cX5_wants 27 = .ok (.aload_n 0, 1) := by decide +kernel
theorem dX5_wants_28 : decode cX5_wants 28 = .ok (.iload_n 1, 1) := by decide +kernel
theorem dX5_wants_29 : decode cX5_wants 29 = .ok (.iload 4, 2) := by decide +kernel
theorem dX5_wants_31 : decode cX5_wants 31 = .ok (.invokevirtual 60, 3) := by decide +kernel
theorem dX5_wants_34 : decode cX5_wants 34 = .ok (.ifCond .ne 17, 3) := by decide +kernel
theorem dX5_wants_37 : decode cX5_wants 37 = .ok (.goto 11, 3) := by decide +kernel
theorem dX5_wants_40 : decode cX5_wants 40 = .ok (.iload 4, 2) := by decide +kernel
theorem dX5_wants_42 : decode cX5_wants 42 = .ok (.invokestatic 64, 3) := by decide +kernel
theorem dX5_wants_45 : decode cX5_wants 45 = .ok (.ifCond .ne 6, 3) := by decide +kernel
theorem dX5_wants_48 : decode cX5_wants 48 = .ok (.bipush (-2), 2) := by decide +kernel
theorem dX5_wants_50 : decode cX5_wants 50 = .ok (.ireturn, 1) := by decide +kernel
theorem dX5_wants_51 : decode cX5_wants 51 = .ok (.aload 5, 2) := by decide +kernel
theorem dX5_wants_53 : decode cX5_wants 53 = .ok (.getfield 67, 3) := by decide +kernel
theorem dX5_wants_56 : decode cX5_wants 56 = .ok (.ifCond .eq 6, 3) := by decide +kernel
theorem dX5_wants_59 : decode cX5_wants 59 = .ok (.bipush (-3), 2) := by decide +kernel
theorem dX5_wants_61 : decode cX5_wants 61 = .ok (.ireturn, 1) := by decide +kernel
theorem dX5_wants_62 : decode cX5_wants 62 = .ok (.aload 5, 2) := by decide +kernel
theorem dX5_wants_64 : decode cX5_wants 64 = .ok (.getfield 71, 3) := by decide +kernel
theorem dX5_wants_67 : decode cX5_wants 67 = .ok (.iload_n 2, 1) := by decide +kernel
theorem dX5_wants_68 : decode cX5_wants 68 = .ok (.iload_n 3, 1) := by decide +kernel
theorem dX5_wants_69 : decode cX5_wants 69 = .ok (.ifCond .eq 11, 3) := by decide +kernel
theorem dX5_wants_72 : decode cX5_wants 72 = .ok (.bipush 10, 2) := by decide +kernel
theorem dX5_wants_74 : decode cX5_wants 74 = .ok (.iload 4, 2) := by decide +kernel
theorem dX5_wants_76 : decode cX5_wants 76 = .ok (.iadd, 1) := by decide +kernel
theorem dX5_wants_77 : decode cX5_wants 77 = .ok (.goto 5, 3) := by decide +kernel
theorem dX5_wants_80 : decode cX5_wants 80 = .ok (.iload 4, 2) := by decide +kernel
theorem dX5_wants_82 : decode cX5_wants 82 = .ok (.invokevirtual 75, 3) := by decide +kernel
theorem dX5_wants_85 : decode cX5_wants 85 = .ok (.ireturn, 1) := by decide +kernel
set_option maxRecDepth 20000 in
theorem ggX5_sends_X5_find : GoodIn wsX5_sends wsX5_find := goodIn_r _ [5, 6, 7, 8, 9, 4, 10, 11, 42, 43, 44, 45, 46] (by decide +kernel) (by decide +kernel)
set_option maxRecDepth 20000 in
theorem gX5_sends_X5_find : GoodIn wsX5_sends (wsV RX5 52 RX5 yX5_find wsX5_find) := goodIn_app (goodIn_of _ (by decide +kernel)) ggX5_sends_X5_find
set_option maxRecDepth 20000 in
theorem ggX5_sends_X4_isStep : GoodIn wsX5_sends wsX4_isStep := goodIn_r _ [16, 17, 30, 31, 32, 33, 34, 35, 36, 37, 38, 39, 40, 41] (by decide +kernel) (by decide +kernel)
set_option maxRecDepth 20000 in
theorem gX5_sends_X4_isStep : GoodIn wsX5_sends (wsV RX5 56 RX4 yX4_isStep wsX4_isStep) := goodIn_app (goodIn_of _ (by decide +kernel)) ggX5_sends_X4_isStep
set_option maxRecDepth 20000 in
theorem ggX5_sends_X5_isOther : GoodIn wsX5_sends wsX5_isOther := goodIn_r _ [21, 7, 8, 9, 4, 10, 11, 42, 43, 44, 45, 46] (by decide +kernel) (by decide +kernel)
set_option maxRecDepth 20000 in
theorem gX5_sends_X5_isOther : GoodIn wsX5_sends (wsV RX5 60 RX5 yX5_isOther wsX5_isOther) := goodIn_app (goodIn_of _ (by decide +kernel)) ggX5_sends_X5_isOther
set_option maxRecDepth 20000 in
theorem ggX5_sends_X2_add : GoodIn wsX5_sends wsX2_add := goodIn_r _ [26, 27, 28, 29, 47, 48, 49] (by decide +kernel) (by decide +kernel)
set_option maxRecDepth 20000 in
theorem gX5_sends_X2_add : GoodIn wsX5_sends (wsV RX5 75 RX2 yX2_add wsX2_add) := goodIn_app (goodIn_of _ (by decide +kernel)) ggX5_sends_X2_add
theorem dX5_sends_0 : decode cX5_sends 0 = .ok (.aload_n 0, 1) := by decide +kernel
theorem dX5_sends_1 : decode cX5_sends 1 = .ok (.iload_n 1, 1) := by decide +kernel
theorem dX5_sends_2 : decode cX5_sends 2 = .ok (.invokevirtual 52, 3) := by decide +kernel
theorem dX5_sends_5 : decode cX5_sends 5 = .ok (.astore 4, 2) := by decide +kernel
theorem dX5_sends_7 : decode cX5_sends 7 = .ok (.aload 4, 2) := by decide +kernel
theorem dX5_sends_9 : decode cX5_sends 9 = .ok (.ifnull 12, 3) := by decide +kernel
theorem dX5_sends_12 : decode cX5_sends 12 = .ok (.aload 4, 2) := by decide +kernel
theorem dX5_sends_14 : decode cX5_sends 14 = .ok (.iload_n 2, 1) := by decide +kernel
theorem dX5_sends_15 : decode cX5_sends 15 = .ok (.invokevirtual 56, 3) := by decide +kernel
theorem dX5_sends_18 : decode cX5_sends 18 = .ok (.ifCond .ne 5, 3) := by decide +kernel
theorem dX5_sends_21 : decode cX5_sends 21 = .ok (.iconst (-1), 1) := by decide +kernel
theorem dX5_sends_22 : decode cX5_sends 22 = .ok (.ireturn, 1) := by decide +kernel
theorem dX5_sends_23 : decode cX5_sends 23 = .ok (.aload_n 0, 1) := by decide +kernel
theorem dX5_sends_24 : decode cX5_sends 24 = .ok (.iload_n 1, 1) := by decide +kernel
theorem dX5_sends_25 : decode cX5_sends 25 = .ok (.iload_n 3, 1) := by decide +kernel
theorem dX5_sends_26 : decode cX5_sends 26 = .ok (.invokevirtual 60, 3) := by decide +kernel
theorem dX5_sends_29 : decode cX5_sends 29 = .ok (.ifCond .ne 6, 3) := by decide +kernel
theorem dX5_sends_32 : decode cX5_sends 32 = .ok (.bipush (-2), 2) := by decide +kernel
theorem dX5_sends_34 : decode cX5_sends 34 = .ok (.ireturn, 1) := by decide +kernel
theorem dX5_sends_35 : decode cX5_sends 35 = .ok (.aload 4, 2) := by decide +kernel
theorem dX5_sends_37 : decode cX5_sends 37 = .ok (.getfield 67, 3) := by decide +kernel
theorem dX5_sends_40 : decode cX5_sends 40 = .ok (.ifCond .eq 6, 3) := by decide +kernel
theorem dX5_sends_43 : decode cX5_sends 43 = .ok (.bipush (-3), 2) := by decide +kernel
theorem dX5_sends_45 : decode cX5_sends 45 = .ok (.ireturn, 1) := by decide +kernel
theorem dX5_sends_46 : decode cX5_sends 46 = .ok (.aload 4, 2) := by decide +kernel
theorem dX5_sends_48 : decode cX5_sends 48 = .ok (.getfield 81, 3) := by decide +kernel
theorem dX5_sends_51 : decode cX5_sends 51 = .ok (.iload_n 2, 1) := by decide +kernel
theorem dX5_sends_52 : decode cX5_sends 52 = .ok (.iload_n 3, 1) := by decide +kernel
theorem dX5_sends_53 : decode cX5_sends 53 = .ok (.invokevirtual 75, 3) := by decide +kernel
theorem dX5_sends_56 : decode cX5_sends 56 = .ok (.ireturn, 1) := by decide +kernel
theorem dX5_loses_0 : decode cX5_loses 0 = .ok (.iload_n 1, 1) := by decide +kernel
theorem dX5_loses_1 : decode cX5_loses 1 = .ok (.ifCond .lt 9, 3) := by decide +kernel
theorem dX5_loses_4 : decode cX5_loses 4 = .ok (.iload_n 1, 1) := by decide +kernel
theorem dX5_loses_5 : decode cX5_loses 5 = .ok (.bipush 100, 2) := by decide +kernel
theorem dX5_loses_7 : decode cX5_loses 7 = .ok (.if_icmp .le 6, 3) := by decide +kernel
theorem dX5_loses_10 : decode cX5_loses 10 = .ok (.bipush (-2), 2) := by decide +kernel
theorem dX5_loses_12 : decode cX5_loses 12 = .ok (.ireturn, 1) := by decide +kernel
theorem dX5_loses_13 : decode cX5_loses 13 = .ok (.aload_n 0, 1) := by decide +kernel
theorem dX5_loses_14 : decode cX5_loses 14 = .ok (.getfield 25, 3) := by decide +kernel
theorem dX5_loses_17 : decode cX5_loses 17 = .ok (.iload_n 1, 1) := by decide +kernel
theorem dX5_loses_18 : decode cX5_loses 18 = .ok (.putfield 84, 3) := by decide +kernel
theorem dX5_loses_21 : decode cX5_loses 21 = .ok (.iconst 1, 1) := by decide +kernel
theorem dX5_loses_22 : decode cX5_loses 22 = .ok (.ireturn, 1) := by decide +kernel
set_option maxRecDepth 20000 in
theorem ggX5_turn_X5_find : GoodIn wsX5_turn wsX5_find := goodIn_r _ [5, 6, 7, 8, 9, 4, 10, 11, 141, 142, 143, 144, 145] (by decide +kernel) (by decide +kernel)
