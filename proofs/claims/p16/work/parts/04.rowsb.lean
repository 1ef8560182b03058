theorem dX3_change_42 : decode cX3_change 42 = .ok (.goto (-40), 3) := by decide +kernel
theorem dX3_change_45 : decode cX3_change 45 = .ok (.return_, 1) := by decide +kernel
theorem dX3_restore_0 : decode cX3_restore 0 = .ok (.iconst 0, 1) := by decide +kernel
theorem dX3_restore_1 : decode cX3_restore 1 = .ok (.istore_n 2, 1) := by decide +kernel
theorem dX3_restore_2 : decode cX3_restore 2 = .ok (.iload_n 2, 1) := by decide +kernel
theorem dX3_restore_3 : decode cX3_restore 3 = .ok (.bipush 10, 2) := by decide +kernel
theorem dX3_restore_5 : decode cX3_restore 5 = .ok (.if_icmp .ge 31, 3) := by decide +kernel
theorem dX3_restore_8 : decode cX3_restore 8 = .ok (.aload_n 0, 1) := by decide +kernel
theorem dX3_restore_9 : decode cX3_restore 9 = .ok (.getfield 18, 3) := by decide +kernel
theorem dX3_restore_12 : decode cX3_restore 12 = .ok (.iload_n 2, 1) := by decide +kernel
theorem dX3_restore_13 : decode cX3_restore 13 = .ok (.iaload, 1) := by decide +kernel
theorem dX3_restore_14 : decode cX3_restore 14 = .ok (.iload_n 1, 1) := by decide +kernel
theorem dX3_restore_15 : decode cX3_restore 15 = .ok (.if_icmp .ne 15, 3) := by decide +kernel
theorem dX3_restore_18 : decode cX3_restore 18 = .ok (.aload_n 0, 1) := by decide +kernel
theorem dX3_restore_19 : decode cX3_restore 19 = .ok (.getfield 9, 3) := by decide +kernel
theorem dX3_restore_22 : decode cX3_restore 22 = .ok (.iload_n 2, 1) := by decide +kernel
theorem dX3_restore_23 : decode cX3_restore 23 = .ok (.aload_n 0, 1) := by decide +kernel
theorem dX3_restore_24 : decode cX3_restore 24 = .ok (.getfield 15, 3) := by decide +kernel
theorem dX3_restore_27 : decode cX3_restore 27 = .ok (.iload_n 2, 1) := by decide +kernel
theorem dX3_restore_28 : decode cX3_restore 28 = .ok (.iaload, 1) := by decide +kernel
theorem dX3_restore_29 : decode cX3_restore 29 = .ok (.iastore, 1) := by decide +kernel
theorem dX3_restore_30 : decode cX3_restore 30 = .ok (.iinc 2 1, 3) := by decide +kernel
theorem dX3_restore_33 : decode cX3_restore 33 = .ok (.goto (-31), 3) := by decide +kernel
theorem dX3_restore_36 : decode cX3_restore 36 = .ok (.return_, 1) := by decide +kernel
set_option maxRecDepth 20000 in
theorem ggX3_release_X2_remove : GoodIn wsX3_release wsX2_remove := goodIn_r _ [7, 8, 9, 10, 11, 12, 13, 6, 14, 15, 16, 17, 18, 23, 24, 25] (by decide +kernel) (by decide +kernel)
set_option maxRecDepth 20000 in
theorem gX3_release_X2_remove : GoodIn wsX3_release (wsV RX3 40 RX2 yX2_remove wsX2_remove) := goodIn_app (goodIn_of _ (by decide +kernel)) ggX3_release_X2_remove
theorem dX3_release_0 : decode cX3_release 0 = .ok (.iconst 0, 1) := by decide +kernel
theorem dX3_release_1 : decode cX3_release 1 = .ok (.istore_n 2, 1) := by decide +kernel
theorem dX3_release_2 : decode cX3_release 2 = .ok (.iload_n 2, 1) := by decide +kernel
theorem dX3_release_3 : decode cX3_release 3 = .ok (.bipush 10, 2) := by decide +kernel
theorem dX3_release_5 : decode cX3_release 5 = .ok (.if_icmp .ge 35, 3) := by decide +kernel
theorem dX3_release_8 : decode cX3_release 8 = .ok (.aload_n 0, 1) := by decide +kernel
theorem dX3_release_9 : decode cX3_release 9 = .ok (.getfield 26, 3) := by decide +kernel
theorem dX3_release_12 : decode cX3_release 12 = .ok (.iload_n 2, 1) := by decide +kernel
theorem dX3_release_13 : decode cX3_release 13 = .ok (.iload_n 1, 1) := by decide +kernel
theorem dX3_release_14 : decode cX3_release 14 = .ok (.invokevirtual 40, 3) := by decide +kernel
theorem dX3_release_17 : decode cX3_release 17 = .ok (.aload_n 0, 1) := by decide +kernel
theorem dX3_release_18 : decode cX3_release 18 = .ok (.getfield 18, 3) := by decide +kernel
theorem dX3_release_21 : decode cX3_release 21 = .ok (.iload_n 2, 1) := by decide +kernel
theorem dX3_release_22 : decode cX3_release 22 = .ok (.iaload, 1) := by decide +kernel
theorem dX3_release_23 : decode cX3_release 23 = .ok (.iload_n 1, 1) := by decide +kernel
theorem dX3_release_24 : decode cX3_release 24 = .ok (.if_icmp .ne 10, 3) := by decide +kernel
theorem dX3_release_27 : decode cX3_release 27 = .ok (.aload_n 0, 1) := by decide +kernel
theorem dX3_release_28 : decode cX3_release 28 = .ok (.getfield 18, 3) := by decide +kernel
theorem dX3_release_31 : decode cX3_release 31 = .ok (.iload_n 2, 1) := by decide +kernel
theorem dX3_release_32 : decode cX3_release 32 = .ok (.iconst (-1), 1) := by decide +kernel
theorem dX3_release_33 : decode cX3_release 33 = .ok (.iastore, 1) := by decide +kernel
theorem dX3_release_34 : decode cX3_release 34 = .ok (.iinc 2 1, 3) := by decide +kernel
theorem dX3_release_37 : decode cX3_release 37 = .ok (.goto (-35), 3) := by decide +kernel
theorem dX3_release_40 : decode cX3_release 40 = .ok (.return_, 1) := by decide +kernel
theorem dX3_countOf_0 : decode cX3_countOf 0 = .ok (.iconst 0, 1) := by decide +kernel
theorem dX3_countOf_1 : decode cX3_countOf 1 = .ok (.istore_n 2, 1) := by decide +kernel
theorem dX3_countOf_2 : decode cX3_countOf 2 = .ok (.iconst 0, 1) := by decide +kernel
theorem dX3_countOf_3 : decode cX3_countOf 3 = .ok (.istore_n 3, 1) := by decide +kernel
theorem dX3_countOf_4 : decode cX3_countOf 4 = .ok (.iload_n 3, 1) := by decide +kernel
theorem dX3_countOf_5 : decode cX3_countOf 5 = .ok (.bipush 10, 2) := by decide +kernel
theorem dX3_countOf_7 : decode cX3_countOf 7 = .ok (.if_icmp .ge 27, 3) := by decide +kernel
theorem dX3_countOf_10 : decode cX3_countOf 10 = .ok (.iload_n 2, 1) := by decide +kernel
theorem dX3_countOf_11 : decode cX3_countOf 11 = .ok (.aload_n 0, 1) := by decide +kernel
theorem dX3_countOf_12 : decode cX3_countOf 12 = .ok (.getfield 18, 3) := by decide +kernel
theorem dX3_countOf_15 : decode cX3_countOf 15 = .ok (.iload_n 3, 1) := by decide +kernel
theorem dX3_countOf_16 : decode cX3_countOf 16 = .ok (.iaload, 1) := by decide +kernel
theorem dX3_countOf_17 : decode cX3_countOf 17 = .ok (.iload_n 1, 1) := by decide +kernel
theorem dX3_countOf_18 : decode cX3_countOf 18 = .ok (.if_icmp .ne 7, 3) := by decide +kernel
theorem dX3_countOf_21 : decode cX3_countOf 21 = .ok (.iconst 1, 1) := by decide +kernel
theorem dX3_countOf_22 : decode cX3_countOf 22 = .ok (.goto 4, 3) := by decide +kernel
theorem dX3_countOf_25 : decode cX3_countOf 25 = .ok (.iconst 0, 1) := by decide +kernel
theorem dX3_countOf_26 : decode cX3_countOf 26 = .ok (.iadd, 1) := by decide +kernel
theorem dX3_countOf_27 : decode cX3_countOf 27 = .ok (.istore_n 2, 1) := by decide +kernel
theorem dX3_countOf_28 : decode cX3_countOf 28 = .ok (.iinc 3 1, 3) := by decide +kernel
theorem dX3_countOf_31 : decode cX3_countOf 31 = .ok (.goto (-27), 3) := by decide +kernel
theorem dX3_countOf_34 : decode cX3_countOf 34 = .ok (.iload_n 2, 1) := by decide +kernel
theorem dX3_countOf_35 : decode cX3_countOf 35 = .ok (.ireturn, 1) := by decide +kernel
set_option maxRecDepth 20000 in
theorem ggX3_holderAwaitedBy_X2_placeOf : GoodIn wsX3_holderAwaitedBy wsX2_placeOf := goodIn_r _ [7, 8, 9, 10, 11, 12, 6, 13, 14, 19, 20, 21] (by decide +kernel) (by decide +kernel)
set_option maxRecDepth 20000 in
theorem gX3_holderAwaitedBy_X2_placeOf : GoodIn wsX3_holderAwaitedBy (wsV RX3 43 RX2 yX2_placeOf wsX2_placeOf) := goodIn_app (goodIn_of _ (by decide +kernel)) ggX3_holderAwaitedBy_X2_placeOf
theorem dX3_holderAwaitedBy_0 : decode cX3_holderAwaitedBy 0 = .ok (.iconst 0, 1) := by decide +kernel
theorem dX3_holderAwaitedBy_1 : decode cX3_holderAwaitedBy 1 = .ok (.istore_n 2, 1) := by decide +kernel
theorem dX3_holderAwaitedBy_2 : decode cX3_holderAwaitedBy 2 = .ok (.iload_n 2, 1) := by decide +kernel
theorem dX3_holderAwaitedBy_3 : decode cX3_holderAwaitedBy 3 = .ok (.bipush 10, 2) := by decide +kernel
theorem dX3_holderAwaitedBy_5 : decode cX3_holderAwaitedBy 5 = .ok (.if_icmp .ge 29, 3) := by decide +kernel
theorem dX3_holderAwaitedBy_8 : decode cX3_holderAwaitedBy 8 = .ok (.aload_n 0, 1) := by decide +kernel
theorem dX3_holderAwaitedBy_9 : decode cX3_holderAwaitedBy 9 = .ok (.getfield 26, 3) := by decide +kernel
theorem dX3_holderAwaitedBy_12 : decode cX3_holderAwaitedBy 12 = .ok (.iload_n 2, 1) := by decide +kernel
theorem dX3_holderAwaitedBy_13 : decode cX3_holderAwaitedBy 13 = .ok (.iload_n 1, 1) := by decide +kernel
theorem dX3_holderAwaitedBy_14 : decode cX3_holderAwaitedBy 14 = .ok (.invokevirtual 43, 3) := by decide +kernel
theorem dX3_holderAwaitedBy_17 : decode cX3_holderAwaitedBy 17 = .ok (.iconst (-1), 1) := by decide +kernel
theorem dX3_holderAwaitedBy_18 : decode cX3_holderAwaitedBy 18 = .ok (.if_icmp .eq 10, 3) := by decide +kernel
theorem dX3_holderAwaitedBy_21 : decode cX3_holderAwaitedBy 21 = .ok (.aload_n 0, 1) := by decide +kernel
theorem dX3_holderAwaitedBy_22 : decode cX3_holderAwaitedBy 22 = .ok (.getfield 18, 3) := by decide +kernel
theorem dX3_holderAwaitedBy_25 : decode cX3_holderAwaitedBy 25 = .ok (.iload_n 2, 1) := by decide +kernel
theorem dX3_holderAwaitedBy_26 : decode cX3_holderAwaitedBy 26 = .ok (.iaload, 1) := by decide +kernel
theorem dX3_holderAwaitedBy_27 : decode cX3_holderAwaitedBy 27 = .ok (.ireturn, 1) := by decide +kernel
theorem dX3_holderAwaitedBy_28 : decode cX3_holderAwaitedBy 28 = .ok (.iinc 2 1, 3) := by decide +kernel
theorem dX3_holderAwaitedBy_31 : decode cX3_holderAwaitedBy 31 = .ok (.goto (-29), 3) := by decide +kernel
theorem dX3_holderAwaitedBy_34 : decode cX3_holderAwaitedBy 34 = .ok (.iconst (-1), 1) := by decide +kernel
theorem dX3_holderAwaitedBy_35 : decode cX3_holderAwaitedBy 35 = .ok (.ireturn, 1) := by decide +kernel
set_option maxRecDepth 20000 in
theorem ggX4_init_X2_init : GoodIn wsX4_init wsX2_init := goodIn_r _ [15, 16, 2, 3, 17, 18, 19, 20, 21, 22, 23] (by decide +kernel) (by decide +kernel)
set_option maxRecDepth 20000 in
theorem gX4_init_X2_init : GoodIn wsX4_init (wsX2_init) := ggX4_init_X2_init
theorem dX4_init_0 : decode cX4_init 0 = .ok (.aload_n 0, 1) := by decide +kernel
theorem dX4_init_1 : decode cX4_init 1 = .ok (.invokespecial 3, 3) := by decide +kernel
theorem dX4_init_4 : decode cX4_init 4 = .ok (.aload_n 0, 1) := by decide +kernel
theorem dX4_init_5 : decode cX4_init 5 = .ok (.new 9, 3) := by decide +kernel
theorem dX4_init_8 : decode cX4_init 8 = .ok (.dup, 1) := by decide +kernel
theorem dX4_init_9 : decode cX4_init 9 = .ok (.bipush 10, 2) := by decide +kernel
theorem dX4_init_11 : decode cX4_init 11 = .ok (.iconst 4, 1) := by decide +kernel
theorem dX4_init_12 : decode cX4_init 12 = .ok (.invokespecial 11, 3) := by decide +kernel
theorem dX4_init_15 : decode cX4_init 15 = .ok (.putfield 14, 3) := by decide +kernel
theorem dX4_init_18 : decode cX4_init 18 = .ok (.aload_n 0, 1) := by decide +kernel
theorem dX4_init_19 : decode cX4_init 19 = .ok (.new 9, 3) := by decide +kernel
theorem dX4_init_22 : decode cX4_init 22 = .ok (.dup, 1) := by decide +kernel
theorem dX4_init_23 : decode cX4_init 23 = .ok (.bipush 10, 2) := by decide +kernel
theorem dX4_init_25 : decode cX4_init 25 = .ok (.iconst 2, 1) := by decide +kernel
theorem dX4_init_26 : decode cX4_init 26 = .ok (.invokespecial 11, 3) := by decide +kernel
theorem dX4_init_29 : decode cX4_init 29 = .ok (.putfield 20, 3) := by decide +kernel
theorem dX4_init_32 : decode cX4_init 32 = .ok (.aload_n 0, 1) := by decide +kernel
theorem dX4_init_33 : decode cX4_init 33 = .ok (.iconst (-1), 1) := by decide +kernel
theorem dX4_init_34 : decode cX4_init 34 = .ok (.putfield 23, 3) := by decide +kernel
theorem dX4_init_37 : decode cX4_init 37 = .ok (.aload_n 0, 1) := by decide +kernel
theorem dX4_init_38 : decode cX4_init 38 = .ok (.iconst 0, 1) := by decide +kernel
theorem dX4_init_39 : decode cX4_init 39 = .ok (.putfield 27, 3) := by decide +kernel
theorem dX4_init_42 : decode cX4_init 42 = .ok (.aload_n 0, 1) := by decide +kernel
theorem dX4_init_43 : decode cX4_init 43 = .ok (.iconst 0, 1) := by decide +kernel
theorem dX4_init_44 : decode cX4_init 44 = .ok (.putfield 30, 3) := by decide +kernel
theorem dX4_init_47 : decode cX4_init 47 = .ok (.aload_n 0, 1) := by decide +kernel
theorem dX4_init_48 : decode cX4_init 48 = .ok (.iload_n 1, 1) := by decide +kernel
theorem dX4_init_49 : decode cX4_init 49 = .ok (.putfield 33, 3) := by decide +kernel
theorem dX4_init_52 : decode cX4_init 52 = .ok (.return_, 1) := by decide +kernel
theorem dX4_isStep_0 : decode cX4_isStep 0 = .ok (.iload_n 1, 1) := by decide +kernel
theorem dX4_isStep_1 : decode cX4_isStep 1 = .ok (.ifCond .lt 15, 3) := by decide +kernel
theorem dX4_isStep_4 : decode cX4_isStep 4 = .ok (.iload_n 1, 1) := by decide +kernel
theorem dX4_isStep_5 : decode cX4_isStep 5 = .ok (.aload_n 0, 1) := by decide +kernel
theorem dX4_isStep_6 : decode cX4_isStep 6 = .ok (.getfield 36, 3) := by decide +kernel
theorem dX4_isStep_9 : decode cX4_isStep 9 = .ok (.if_icmp .ge 7, 3) := by decide +kernel
theorem dX4_isStep_12 : decode cX4_isStep 12 = .ok (.iconst 1, 1) := by decide +kernel
theorem dX4_isStep_13 : decode cX4_isStep 13 = .ok (.goto 4, 3) := by decide +kernel
theorem dX4_isStep_16 : decode cX4_isStep 16 = .ok (.iconst 0, 1) := by decide +kernel
theorem dX4_isStep_17 : decode cX4_isStep 17 = .ok (.ireturn, 1) := by decide +kernel
set_option maxRecDepth 20000 in
theorem ggX4_gotAll_X2_count : GoodIn wsX4_gotAll wsX2_count := goodIn_r _ [8, 9, 22, 23, 24] (by decide +kernel) (by decide +kernel)
set_option maxRecDepth 20000 in
theorem gX4_gotAll_X2_count : GoodIn wsX4_gotAll (wsV RX4 45 RX2 yX2_count wsX2_count) := goodIn_app (goodIn_of _ (by decide +kernel)) ggX4_gotAll_X2_count
theorem dX4_gotAll_0 : decode cX4_gotAll 0 = .ok (.aload_n 0, 1) := by decide +kernel
theorem dX4_gotAll_1 : decode cX4_gotAll 1 = .ok (.getfield 39, 3) := by decide +kernel
theorem dX4_gotAll_4 : decode cX4_gotAll 4 = .ok (.aload_n 0, 1) := by decide +kernel
theorem dX4_gotAll_5 : decode cX4_gotAll 5 = .ok (.getfield 14, 3) := by decide +kernel
theorem dX4_gotAll_8 : decode cX4_gotAll 8 = .ok (.aload_n 0, 1) := by decide +kernel
theorem dX4_gotAll_9 : decode cX4_gotAll 9 = .ok (.getfield 42, 3) := by decide +kernel
theorem dX4_gotAll_12 : decode cX4_gotAll 12 = .ok (.invokevirtual 45, 3) := by decide +kernel
theorem dX4_gotAll_15 : decode cX4_gotAll 15 = .ok (.if_icmp .lt 7, 3) := by decide +kernel
theorem dX4_gotAll_18 : decode cX4_gotAll 18 = .ok (.iconst 1, 1) := by decide +kernel
theorem dX4_gotAll_19 : decode cX4_gotAll 19 = .ok (.goto 4, 3) := by decide +kernel
theorem dX4_gotAll_22 : decode cX4_gotAll 22 = .ok (.iconst 0, 1) := by decide +kernel
theorem dX4_gotAll_23 : decode cX4_gotAll 23 = .ok (.ireturn, 1) := by decide +kernel
theorem dX4_beginAgain_0 : decode cX4_beginAgain 0 = .ok (.aload_n 0, 1) := by decide +kernel
theorem dX4_beginAgain_1 : decode cX4_beginAgain 1 = .ok (.iconst 0, 1) := by decide +kernel
theorem dX4_beginAgain_2 : decode cX4_beginAgain 2 = .ok (.putfield 27, 3) := by decide +kernel
theorem dX4_beginAgain_5 : decode cX4_beginAgain 5 = .ok (.aload_n 0, 1) := by decide +kernel
theorem dX4_beginAgain_6 : decode cX4_beginAgain 6 = .ok (.iconst 0, 1) := by decide +kernel
theorem dX4_beginAgain_7 : decode cX4_beginAgain 7 = .ok (.putfield 42, 3) := by decide +kernel
theorem dX4_beginAgain_10 : decode cX4_beginAgain 10 = .ok (.aload_n 0, 1) := by decide +kernel
theorem dX4_beginAgain_11 : decode cX4_beginAgain 11 = .ok (.iconst 0, 1) := by decide +kernel
theorem dX4_beginAgain_12 : decode cX4_beginAgain 12 = .ok (.putfield 39, 3) := by decide +kernel
theorem dX4_beginAgain_15 : decode cX4_beginAgain 15 = .ok (.aload_n 0, 1) := by decide +kernel
theorem dX4_beginAgain_16 : decode cX4_beginAgain 16 = .ok (.iconst (-1), 1) := by decide +kernel
theorem dX4_beginAgain_17 : decode cX4_beginAgain 17 = .ok (.putfield 23, 3) := by decide +kernel
theorem dX4_beginAgain_20 : decode cX4_beginAgain 20 = .ok (.aload_n 0, 1) := by decide +kernel
theorem dX4_beginAgain_21 : decode cX4_beginAgain 21 = .ok (.iconst 0, 1) := by decide +kernel
theorem dX4_beginAgain_22 : decode cX4_beginAgain 22 = .ok (.putfield 30, 3) := by decide +kernel
theorem dX4_beginAgain_25 : decode cX4_beginAgain 25 = .ok (.aload_n 0, 1) := by decide +kernel
theorem dX4_beginAgain_26 : decode cX4_beginAgain 26 = .ok (.dup, 1) := by decide +kernel
theorem dX4_beginAgain_27 : decode cX4_beginAgain 27 = .ok (.getfield 49, 3) := by decide +kernel
theorem dX4_beginAgain_30 : decode cX4_beginAgain 30 = .ok (.iconst 1, 1) := by decide +kernel
theorem dX4_beginAgain_31 : decode cX4_beginAgain 31 = .ok (.iadd, 1) := by decide +kernel
theorem dX4_beginAgain_32 : decode cX4_beginAgain 32 = .ok (.putfield 49, 3) := by decide +kernel
theorem dX4_beginAgain_35 : decode cX4_beginAgain 35 = .ok (.return_, 1) := by decide +kernel
set_option maxRecDepth 20000 in
theorem ggX5_init_X3_init : GoodIn wsX5_init wsX3_init := goodIn_r _ [22, 23, 2, 3, 24, 25, 26, 27, 28, 29, 30, 31, 32, 33, 34, 35, 36, 37, 38, 39, 40, 41, 42, 71, 72, 73, 74, 91, 92, 93] (by decide +kernel) (by decide +kernel)
set_option maxRecDepth 20000 in
theorem gX5_init_X3_init : GoodIn wsX5_init (wsX3_init) := ggX5_init_X3_init
set_option maxRecDepth 20000 in
theorem ggX5_init_X1_init : GoodIn wsX5_init wsX1_init := goodIn_r _ [44, 45, 2, 3, 24, 46, 47, 75, 76, 77] (by decide +kernel) (by decide +kernel)
set_option maxRecDepth 20000 in
theorem gX5_init_X1_init_n24 : GoodIn wsX5_init (wsX1_init) := ggX5_init_X1_init
set_option maxRecDepth 20000 in
theorem ggX5_init_X0_init : GoodIn wsX5_init wsX0_init := goodIn_r _ [49, 50, 2, 3, 51, 29, 30, 52, 53, 33, 34, 35, 36, 24, 37, 38, 91, 92, 93, 78] (by decide +kernel) (by decide +kernel)
set_option maxRecDepth 20000 in
theorem gX5_init_X0_init_n31 : GoodIn wsX5_init (wsX0_init) := ggX5_init_X0_init
set_option maxRecDepth 20000 in
theorem ggX5_init_X4_init : GoodIn wsX5_init wsX4_init := goodIn_r _ [56, 57, 2, 3, 58, 29, 30, 59, 60, 61, 62, 63, 64, 65, 33, 34, 35, 36, 24, 37, 38, 91, 92, 93, 79, 80, 81, 82, 83, 84, 85, 86, 87, 88, 89, 90] (by decide +kernel) (by decide +kernel)
set_option maxRecDepth 20000 in
theorem gX5_init_X4_init : GoodIn wsX5_init (wsX4_init) := ggX5_init_X4_init
theorem dX5_init_0 : decode cX5_init 0 = .ok (.aload_n 0, 1) := by decide +kernel
theorem dX5_init_1 : decode cX5_init 1 = .ok (.invokespecial 1, 3) := by decide +kernel
theorem dX5_init_4 : decode cX5_init 4 = .ok (.aload_n 0, 1) := by decide +kernel
theorem dX5_init_5 : decode cX5_init 5 = .ok (.bipush 12, 2) := by decide +kernel
theorem dX5_init_7 : decode cX5_init 7 = .ok (.anewarray 9, 3) := by decide +kernel
theorem dX5_init_10 : decode cX5_init 10 = .ok (.putfield 11, 3) := by decide +kernel
theorem dX5_init_13 : decode cX5_init 13 = .ok (.aload_n 0, 1) := by decide +kernel
theorem dX5_init_14 : decode cX5_init 14 = .ok (.new 15, 3) := by decide +kernel
theorem dX5_init_17 : decode cX5_init 17 = .ok (.dup, 1) := by decide +kernel
theorem dX5_init_18 : decode cX5_init 18 = .ok (.invokespecial 17, 3) := by decide +kernel
theorem dX5_init_21 : decode cX5_init 21 = .ok (.putfield 18, 3) := by decide +kernel
theorem dX5_init_24 : decode cX5_init 24 = .ok (.aload_n 0, 1) := by decide +kernel
theorem dX5_init_25 : decode cX5_init 25 = .ok (.new 22, 3) := by decide +kernel
theorem dX5_init_28 : decode cX5_init 28 = .ok (.dup, 1) := by decide +kernel
theorem dX5_init_29 : decode cX5_init 29 = .ok (.invokespecial 24, 3) := by decide +kernel
theorem dX5_init_32 : decode cX5_init 32 = .ok (.putfield 25, 3) := by decide +kernel
theorem dX5_init_35 : decode cX5_init 35 = .ok (.aload_n 0, 1) := by decide +kernel
theorem dX5_init_36 : decode cX5_init 36 = .ok (.new 29, 3) := by decide +kernel
theorem dX5_init_39 : decode cX5_init 39 = .ok (.dup, 1) := by decide +kernel
theorem dX5_init_40 : decode cX5_init 40 = .ok (.invokespecial 31, 3) := by decide +kernel
theorem dX5_init_43 : decode cX5_init 43 = .ok (.putfield 32, 3) := by decide +kernel
theorem dX5_init_46 : decode cX5_init 46 = .ok (.iconst 0, 1) := by decide +kernel
theorem dX5_init_47 : decode cX5_init 47 = .ok (.istore_n 1, 1) := by decide +kernel
theorem dX5_init_48 : decode cX5_init 48 = .ok (.iload_n 1, 1) := by decide +kernel
theorem dX5_init_49 : decode cX5_init 49 = .ok (.bipush 12, 2) := by decide +kernel
theorem dX5_init_51 : decode cX5_init 51 = .ok (.if_icmp .ge 23, 3) := by decide +kernel
theorem dX5_init_54 : decode cX5_init 54 = .ok (.aload_n 0, 1) := by decide +kernel
theorem dX5_init_55 : decode cX5_init 55 = .ok (.getfield 11, 3) := by decide +kernel
theorem dX5_init_58 : decode cX5_init 58 = .ok (.iload_n 1, 1) := by decide +kernel
theorem dX5_init_59 : decode cX5_init 59 = .ok (.new 9, 3) := by decide +kernel
theorem dX5_init_62 : decode cX5_init 62 = .ok (.dup, 1) := by decide +kernel
theorem dX5_init_63 : decode cX5_init 63 = .ok (.iload_n 1, 1) := by decide +kernel
theorem dX5_init_64 : decode cX5_init 64 = .ok (.invokespecial 36, 3) := by decide +kernel
theorem dX5_init_67 : decode cX5_init 67 = .ok (.aastore, 1) := by decide +kernel
theorem dX5_init_68 : decode cX5_init 68 = .ok (.iinc 1 1, 3) := by decide +kernel
theorem dX5_init_71 : decode cX5_init 71 = .ok (.goto (-23), 3) := by decide +kernel
theorem dX5_init_74 : decode cX5_init 74 = .ok (.return_, 1) := by decide +kernel
theorem dX5_work_0 : decode cX5_work 0 = .ok (.iload_n 1, 1) := by decide +kernel
theorem dX5_work_1 : decode cX5_work 1 = .ok (.iconst 1, 1) := by decide +kernel
theorem dX5_work_2 : decode cX5_work 2 = .ok (.if_icmp .lt 19, 3) := by decide +kernel
theorem dX5_work_5 : decode cX5_work 5 = .ok (.iload_n 1, 1) := by decide +kernel
theorem dX5_work_6 : decode cX5_work 6 = .ok (.bipush 10, 2) := by decide +kernel
theorem dX5_work_8 : decode cX5_work 8 = .ok (.if_icmp .gt 13, 3) := by decide +kernel
theorem dX5_work_11 : decode cX5_work 11 = .ok (.iload_n 2, 1) := by decide +kernel
theorem dX5_work_12 : decode cX5_work 12 = .ok (.iconst (-1), 1) := by decide +kernel
theorem dX5_work_13 : decode cX5_work 13 = .ok (.if_icmp .lt 8, 3) := by decide +kernel
theorem dX5_work_16 : decode cX5_work 16 = .ok (.iload_n 2, 1) := by decide +kernel
theorem dX5_work_17 : decode cX5_work 17 = .ok (.iload_n 1, 1) := by decide +kernel
theorem dX5_work_18 : decode cX5_work 18 = .ok (.if_icmp .lt 6, 3) := by decide +kernel
theorem dX5_work_21 : decode cX5_work 21 = .ok (.bipush (-2), 2) := by decide +kernel
theorem dX5_work_23 : decode cX5_work 23 = .ok (.ireturn, 1) := by decide +kernel
theorem dX5_work_24 : decode cX5_work 24 = .ok (.aload_n 0, 1) := by decide +kernel
theorem dX5_work_25 : decode cX5_work 25 = .ok (.getfield 39, 3) := by decide +kernel
theorem dX5_work_28 : decode cX5_work 28 = .ok (.bipush 12, 2) := by decide +kernel
theorem dX5_work_30 : decode cX5_work 30 = .ok (.if_icmp .lt 6, 3) := by decide +kernel
theorem dX5_work_33 : decode cX5_work 33 = .ok (.bipush (-4), 2) := by decide +kernel
theorem dX5_work_35 : decode cX5_work 35 = .ok (.ireturn, 1) := by decide +kernel
theorem dX5_work_36 : decode cX5_work 36 = .ok (.aload_n 0, 1) := by decide +kernel
theorem dX5_work_37 : decode cX5_work 37 = .ok (.getfield 11, 3) := by decide +kernel
theorem dX5_work_40 : decode cX5_work 40 = .ok (.aload_n 0, 1) := by decide +kernel
theorem dX5_work_41 : decode cX5_work 41 = .ok (.getfield 39, 3) := by decide +kernel
theorem dX5_work_44 : decode cX5_work 44 = .ok (.aaload, 1) := by decide +kernel
theorem dX5_work_45 : decode cX5_work 45 = .ok (.astore_n 3, 1) := by decide +kernel
theorem dX5_work_46 : decode cX5_work 46 = .ok (.aload_n 3, 1) := by decide +kernel
theorem dX5_work_47 : decode cX5_work 47 = .ok (.iload_n 1, 1) := by decide +kernel
theorem dX5_work_48 : decode cX5_work 48 = .ok (.putfield 43, 3) := by decide +kernel
theorem dX5_work_51 : decode cX5_work 51 = .ok (.aload_n 3, 1) := by decide +kernel
theorem dX5_work_52 : decode cX5_work 52 = .ok (.iload_n 2, 1) := by decide +kernel
theorem dX5_work_53 : decode cX5_work 53 = .ok (.putfield 46, 3) := by decide +kernel
theorem dX5_work_56 : decode cX5_work 56 = .ok (.aload_n 0, 1) := by decide +kernel
theorem dX5_work_57 : decode cX5_work 57 = .ok (.dup, 1) := by decide +kernel
theorem dX5_work_58 : decode cX5_work 58 = .ok (.getfield 39, 3) := by decide +kernel
theorem dX5_work_61 : decode cX5_work 61 = .ok (.iconst 1, 1) := by decide +kernel
theorem dX5_work_62 : decode cX5_work 62 = .ok (.iadd, 1) := by decide +kernel
theorem dX5_work_63 : decode cX5_work 63 = .ok (.putfield 39, 3) := by decide +kernel
theorem dX5_work_66 : decode cX5_work 66 = .ok (.aload_n 3, 1) := by decide +kernel
theorem dX5_work_67 : decode cX5_work 67 = .ok (.getfield 49, 3) := by decide +kernel
theorem dX5_work_70 : decode cX5_work 70 = .ok (.ireturn, 1) := by decide +kernel
set_option maxRecDepth 20000 in
theorem ggX5_wants_X5_find : GoodIn wsX5_wants wsX5_find := goodIn_r _ [5, 6, 7, 8, 9, 4, 10, 11, 45, 46, 47, 48, 49] (by decide +kernel) (by decide +kernel)
set_option maxRecDepth 20000 in
theorem gX5_wants_X5_find : GoodIn wsX5_wants (wsV RX5 52 RX5 yX5_find wsX5_find) := goodIn_app (goodIn_of _ (by decide +kernel)) ggX5_wants_X5_find
set_option maxRecDepth 20000 in
theorem ggX5_wants_X4_isStep : GoodIn wsX5_wants wsX4_isStep := goodIn_r _ [16, 17, 33, 34, 35, 36, 37, 38, 39, 40, 41, 42, 43, 44] (by decide +kernel) (by decide +kernel)
set_option maxRecDepth 20000 in
theorem gX5_wants_X4_isStep : GoodIn wsX5_wants (wsV RX5 56 RX4 yX4_isStep wsX4_isStep) := goodIn_app (goodIn_of _ (by decide +kernel)) ggX5_wants_X4_isStep
set_option maxRecDepth 20000 in
theorem ggX5_wants_X5_isOther : GoodIn wsX5_wants wsX5_isOther := goodIn_r _ [21, 7, 8, 9, 4, 10, 11, 45, 46, 47, 48, 49] (by decide +kernel) (by decide +kernel)
set_option maxRecDepth 20000 in
theorem gX5_wants_X5_isOther : GoodIn wsX5_wants (wsV RX5 60 RX5 yX5_isOther wsX5_isOther) := goodIn_app (goodIn_of _ (by decide +kernel)) ggX5_wants_X5_isOther
set_option maxRecDepth 20000 in
theorem ggX5_wants_X5_isCopy : GoodIn wsX5_wants wsX5_isCopy := goodIn_r _ [24] (by decide +kernel) (by decide +kernel)
set_option maxRecDepth 20000 in
theorem gX5_wants_X5_isCopy : GoodIn wsX5_wants (va_wsS RX5 64 yX5_isCopy wsX5_isCopy) := goodIn_app (goodIn_of _ (by decide +kernel)) ggX5_wants_X5_isCopy
set_option maxRecDepth 20000 in
theorem ggX5_wants_X2_add : GoodIn wsX5_wants wsX2_add := goodIn_r _ [29, 30, 31, 32, 50, 51, 52] (by decide +kernel) (by decide +kernel)
set_option maxRecDepth 20000 in
theorem gX5_wants_X2_add : GoodIn wsX5_wants (wsV RX5 75 RX2 yX2_add wsX2_add) := goodIn_app (goodIn_of _ (by decide +kernel)) ggX5_wants_X2_add
theorem dX5_wants_0 : decode cX5_wants 0 = .ok (.aload_n 0, 1) := by decide +kernel
theorem dX5_wants_1 : decode cX5_wants 1 = .ok (.iload_n 1, 1) := by decide +kernel
theorem dX5_wants_2 : decode cX5_wants 2 = .ok (.invokevirtual 52, 3) := by decide +kernel
theorem dX5_wants_5 : decode cX5_wants 5 = .ok (.astore 5, 2) := by decide +kernel
theorem dX5_wants_7 : decode cX5_wants 7 = .ok (.aload 5, 2) := by decide +kernel
theorem dX5_wants_9 : decode cX5_wants 9 = .ok (.ifnull 12, 3) := by decide +kernel
theorem dX5_wants_12 : decode cX5_wants 12 = .ok (.aload 5, 2) := by decide +kernel
theorem dX5_wants_14 : decode cX5_wants 14 = .ok (.iload_n 2, 1) := by decide +kernel
theorem dX5_wants_15 : decode cX5_wants 15 = .ok (.invokevirtual 56, 3) := by decide +kernel
theorem dX5_wants_18 : decode cX5_wants 18 = .ok (.ifCond .ne 5, 3) := by decide +kernel
theorem dX5_wants_21 : decode cX5_wants 21 = .ok (.iconst (-1), 1) := by decide +kernel
theorem dX5_wants_22 : decode cX5_wants 22 = .ok (.ireturn, 1) := by decide +kernel
theorem dX5_wants_23 : decode cX5_wants 23 = .ok (.iload_n 3, 1) := by decide +kernel
theorem dX5_wants_24 : decode cX5_wants 24 = .ok (.ifCond .eq 16, 3) := by decide +kernel
theorem dX5_wants_27 : decode cX5_wants 27 = .ok (.aload_n 0, 1) := by decide +kernel
theorem dX5_wants_28 : decode cX5_wants 28 = .ok (.iload_n 1, 1) := by decide +kernel
theorem dX5_wants_29 : decode cX5_wants 29 = .ok (.iload 4, 2) := by decide +kernel
theorem dX5_wants_31 : decode cX5_wants 31 = .ok (.invokevirtual 60, 3) := by decide +kernel
theorem dX5_wants_34 : decode cX5_wants 34 = .ok (.ifCond .ne 17, 3) := by decide +kernel
theorem dX5_wants_37 : decode cX5_wants 37 = .ok (.goto 11, 3) := by decide +kernel
theorem dX5_wants_40 : decode cX5_wants 40 = .ok (.iload 4, 2) := by decide +kernel
theorem dX5_wants_42 : decode cX5_wants 42 = .ok (.invokestatic 64, 3) := by decide +kernel
theorem dX5_wants_45 : decode cX5_wants 45 = .ok (.ifCond .ne 6, 3) := by decide +kernel
theorem dX5_wants_48 : decode cX5_wants 48 = .ok (.bipush (-2), 2) := by decide +kernel
theorem dX5_wants_50 : decode cX5_wants 50 = .ok (.ireturn, 1) := by decide +kernel
theorem dX5_wants_51 : decode cX5_wants 51 = .ok (.aload 5, 2) := by decide +kernel
theorem dX5_wants_53 : decode cX5_wants 53 = .ok (.getfield 67, 3) := by decide +kernel
theorem dX5_wants_56 : decode cX5_wants 56 = .ok (.ifCond .eq 6, 3) := by decide +kernel
theorem dX5_wants_59 : decode cX5_wants 59 = .ok (.bipush (-3), 2) := by decide +kernel
theorem dX5_wants_61 : decode cX5_wants 61 = .ok (.ireturn, 1) := by decide +kernel
theorem dX5_wants_62 : decode cX5_wants 62 = .ok (.aload 5, 2) := by decide +kernel
theorem dX5_wants_64 : decode cX5_wants 64 = .ok (.getfield 71, 3) := by decide +kernel
theorem dX5_wants_67 : decode cX5_wants 67 = .ok (.iload_n 2, 1) := by decide +kernel
theorem dX5_wants_68 : decode cX5_wants 68 = .ok (.iload_n 3, 1) := by decide +kernel
theorem dX5_wants_69 : decode cX5_wants 69 = .ok (.ifCond .eq 11, 3) := by decide +kernel
theorem dX5_wants_72 : decode cX5_wants 72 = .ok (.bipush 10, 2) := by decide +kernel
theorem dX5_wants_74 : decode cX5_wants 74 = .ok (.iload 4, 2) := by decide +kernel
theorem dX5_wants_76 : decode cX5_wants 76 = .ok (.iadd, 1) := by decide +kernel
theorem dX5_wants_77 : decode cX5_wants 77 = .ok (.goto 5, 3) := by decide +kernel
theorem dX5_wants_80 : decode cX5_wants 80 = .ok (.iload 4, 2) := by decide +kernel
theorem dX5_wants_82 : decode cX5_wants 82 = .ok (.invokevirtual 75, 3) := by decide +kernel
theorem dX5_wants_85 : decode cX5_wants 85 = .ok (.ireturn, 1) := by decide +kernel
set_option maxRecDepth 20000 in
theorem ggX5_sends_X5_find : GoodIn wsX5_sends wsX5_find := goodIn_r _ [5, 6, 7, 8, 9, 4, 10, 11, 42, 43, 44, 45, 46] (by decide +kernel) (by decide +kernel)
set_option maxRecDepth 20000 in
theorem gX5_sends_X5_find : GoodIn wsX5_sends (wsV RX5 52 RX5 yX5_find wsX5_find) := goodIn_app (goodIn_of _ (by decide +kernel)) ggX5_sends_X5_find
set_option maxRecDepth 20000 in
theorem ggX5_sends_X4_isStep : GoodIn wsX5_sends wsX4_isStep := goodIn_r _ [16, 17, 30, 31, 32, 33, 34, 35, 36, 37, 38, 39, 40, 41] (by decide +kernel) (by decide +kernel)
set_option maxRecDepth 20000 in
theorem gX5_sends_X4_isStep : GoodIn wsX5_sends (wsV RX5 56 RX4 yX4_isStep wsX4_isStep) := goodIn_app (goodIn_of _ (by decide +kernel)) ggX5_sends_X4_isStep
set_option maxRecDepth 20000 in
theorem ggX5_sends_X5_isOther : GoodIn wsX5_sends wsX5_isOther := goodIn_r _ [21, 7, 8, 9, 4, 10, 11, 42, 43, 44, 45, 46] (by decide +kernel) (by decide +kernel)
set_option maxRecDepth 20000 in
theorem gX5_sends_X5_isOther : GoodIn wsX5_sends (wsV RX5 60 RX5 yX5_isOther wsX5_isOther) := goodIn_app (goodIn_of _ (by decide +kernel)) ggX5_sends_X5_isOther
set_option maxRecDepth 20000 in
theorem ggX5_sends_X2_add : GoodIn wsX5_sends wsX2_add := goodIn_r _ [26, 27, 28, 29, 47, 48, 49] (by decide +kernel) (by decide +kernel)
set_option maxRecDepth 20000 in
theorem gX5_sends_X2_add : GoodIn wsX5_sends (wsV RX5 75 RX2 yX2_add wsX2_add) := goodIn_app (goodIn_of _ (by decide +kernel)) ggX5_sends_X2_add
theorem dX5_sends_0 : decode cX5_sends 0 = .ok (.aload_n 0, 1) := by decide +kernel
theorem dX5_sends_1 : decode cX5_sends 1 = .ok (.iload_n 1, 1) := by decide +kernel
theorem dX5_sends_2 : decode cX5_sends 2 = .ok (.invokevirtual 52, 3) := by decide +kernel
theorem dX5_sends_5 : decode cX5_sends 5 = .ok (.astore 4, 2) := by decide +kernel
theorem dX5_sends_7 : decode cX5_sends 7 = .ok (.aload 4, 2) := by decide +kernel
theorem dX5_sends_9 : decode cX5_sends 9 = .ok (.ifnull 12, 3) := by decide +kernel
theorem dX5_sends_12 : decode cX5_sends 12 = .ok (.aload 4, 2) := by decide +kernel
theorem dX5_sends_14 : decode cX5_sends 14 = .ok (.iload_n 2, 1) := by decide +kernel
theorem dX5_sends_15 : decode cX5_sends 15 = .ok (.invokevirtual 56, 3) := by decide +kernel
theorem dX5_sends_18 : decode cX5_sends 18 = .ok (.ifCond .ne 5, 3) := by decide +kernel
theorem dX5_sends_21 : decode cX5_sends 21 = .ok (.iconst (-1), 1) := by decide +kernel
theorem dX5_sends_22 : decode cX5_sends 22 = .ok (.ireturn, 1) := by decide +kernel
theorem dX5_sends_23 : decode cX5_sends 23 = .ok (.aload_n 0, 1) := by decide +kernel
theorem dX5_sends_24 : decode cX5_sends 24 = .ok (.iload_n 1, 1) := by decide +kernel
theorem dX5_sends_25 : decode cX5_sends 25 = .ok (.iload_n 3, 1) := by decide +kernel
theorem dX5_sends_26 : decode cX5_sends 26 = .ok (.invokevirtual 60, 3) := by decide +kernel
theorem dX5_sends_29 : decode cX5_sends 29 = .ok (.ifCond .ne 6, 3) := by decide +kernel
theorem dX5_sends_32 : decode cX5_sends 32 = .ok (.bipush (-2), 2) := by decide +kernel
theorem dX5_sends_34 : decode cX5_sends 34 = .ok (.ireturn, 1) := by decide +kernel
theorem dX5_sends_35 : decode cX5_sends 35 = .ok (.aload 4, 2) := by decide +kernel
theorem dX5_sends_37 : decode cX5_sends 37 = .ok (.getfield 67, 3) := by decide +kernel
theorem dX5_sends_40 : decode cX5_sends 40 = .ok (.ifCond .eq 6, 3) := by decide +kernel
theorem dX5_sends_43 : decode cX5_sends 43 = .ok (.bipush (-3), 2) := by decide +kernel
theorem dX5_sends_45 : decode cX5_sends 45 = .ok (.ireturn, 1) := by decide +kernel
theorem dX5_sends_46 : decode cX5_sends 46 = .ok (.aload 4, 2) := by decide +kernel
theorem dX5_sends_48 : decode cX5_sends 48 = .ok (.getfield 81, 3) := by decide +kernel
theorem dX5_sends_51 : decode cX5_sends 51 = .ok (.iload_n 2, 1) := by decide +kernel
theorem dX5_sends_52 : decode cX5_sends 52 = .ok (.iload_n 3, 1) := by decide +kernel
theorem dX5_sends_53 : decode cX5_sends 53 = .ok (.invokevirtual 75, 3) := by decide +kernel
theorem dX5_sends_56 : decode cX5_sends 56 = .ok (.ireturn, 1) := by decide +kernel
theorem dX5_loses_0 : decode cX5_loses 0 = .ok (.iload_n 1, 1) := by decide +kernel
theorem dX5_loses_1 : decode cX5_loses 1 = .ok (.ifCond .lt 9, 3) := by decide +kernel
theorem dX5_loses_4 : decode cX5_loses 4 = .ok (.iload_n 1, 1) := by decide +kernel
theorem dX5_loses_5 : decode cX5_loses 5 = .ok (.bipush 100, 2) := by decide +kernel
theorem dX5_loses_7 : decode cX5_loses 7 = .ok (.if_icmp .le 6, 3) := by decide +kernel
theorem dX5_loses_10 : decode cX5_loses 10 = .ok (.bipush (-2), 2) := by decide +kernel
theorem dX5_loses_12 : decode cX5_loses 12 = .ok (.ireturn, 1) := by decide +kernel
theorem dX5_loses_13 : decode cX5_loses 13 = .ok (.aload_n 0, 1) := by decide +kernel
theorem dX5_loses_14 : decode cX5_loses 14 = .ok (.getfield 25, 3) := by decide +kernel
theorem dX5_loses_17 : decode cX5_loses 17 = .ok (.iload_n 1, 1) := by decide +kernel
theorem dX5_loses_18 : decode cX5_loses 18 = .ok (.putfield 84, 3) := by decide +kernel
theorem dX5_loses_21 : decode cX5_loses 21 = .ok (.iconst 1, 1) := by decide +kernel
theorem dX5_loses_22 : decode cX5_loses 22 = .ok (.ireturn, 1) := by decide +kernel
set_option maxRecDepth 20000 in
theorem ggX5_turn_X5_find : GoodIn wsX5_turn wsX5_find := goodIn_r _ [5, 6, 7, 8, 9, 4, 10, 11, 141, 142, 143, 144, 145] (by decide +kernel) (by decide +kernel)
set_option maxRecDepth 20000 in
theorem gX5_turn_X5_find : GoodIn wsX5_turn (wsV RX5 52 RX5 yX5_find wsX5_find) := goodIn_app (goodIn_of _ (by decide +kernel)) ggX5_turn_X5_find
set_option maxRecDepth 20000 in
theorem ggX5_turn_X5_takeTurn : GoodIn wsX5_turn wsX5_takeTurn := goodIn_r _ [15, 16, 17, 18, 19, 20, 21, 22, 23, 24, 25, 26, 27, 28, 29, 30, 31, 32, 4, 33, 34, 35, 36, 37, 38, 39, 40, 41, 42, 43, 44, 45, 46, 47, 48, 49, 50, 51, 52, 53, 54, 55, 56, 57, 58, 59, 60, 61, 62, 63, 64, 65, 66, 67, 68, 69, 70, 71, 72, 73, 74, 75, 76, 77, 78, 79, 80, 81, 82, 83, 84, 85, 86, 87, 88, 89, 90, 91, 92, 93, 94, 95, 96, 97, 98, 99, 100, 101, 102, 103, 104, 105, 106, 107, 108, 109, 110, 111, 112, 113, 114, 115, 116, 117, 118, 119, 120, 121, 122, 123, 124, 125, 126, 127, 128, 129, 130, 131, 132, 133, 134, 135, 136, 137, 138, 139, 140, 146, 147, 148, 149, 150, 151, 152, 153, 154, 155, 156, 157, 158, 159, 160, 141, 142, 143, 144, 145, 161, 162, 163, 164, 165, 166, 167, 168] (by decide +kernel) (by decide +kernel)
set_option maxRecDepth 20000 in
theorem gX5_turn_X5_takeTurn : GoodIn wsX5_turn (wsV RX5 87 RX5 yX5_takeTurn wsX5_takeTurn) := goodIn_app (goodIn_of _ (by decide +kernel)) ggX5_turn_X5_takeTurn
theorem dX5_turn_0 : decode cX5_turn 0 = .ok (.aload_n 0, 1) := by decide +kernel
theorem dX5_turn_1 : decode cX5_turn 1 = .ok (.iload_n 1, 1) := by decide +kernel
theorem dX5_turn_2 : decode cX5_turn 2 = .ok (.invokevirtual 52, 3) := by decide +kernel
theorem dX5_turn_5 : decode cX5_turn 5 = .ok (.astore_n 2, 1) := by decide +kernel
theorem dX5_turn_6 : decode cX5_turn 6 = .ok (.aload_n 2, 1) := by decide +kernel
theorem dX5_turn_7 : decode cX5_turn 7 = .ok (.ifnonnull 7, 3) := by decide +kernel
theorem dX5_turn_10 : decode cX5_turn 10 = .ok (.iconst 0, 1) := by decide +kernel
theorem dX5_turn_11 : decode cX5_turn 11 = .ok (.goto 8, 3) := by decide +kernel
theorem dX5_turn_14 : decode cX5_turn 14 = .ok (.aload_n 0, 1) := by decide +kernel
theorem dX5_turn_15 : decode cX5_turn 15 = .ok (.aload_n 2, 1) := by decide +kernel
theorem dX5_turn_16 : decode cX5_turn 16 = .ok (.invokevirtual 87, 3) := by decide +kernel
theorem dX5_turn_19 : decode cX5_turn 19 = .ok (.ireturn, 1) := by decide +kernel
set_option maxRecDepth 20000 in
theorem ggX5_run_X5_takeTurn : GoodIn wsX5_run wsX5_takeTurn := goodIn_r _ [8, 9, 10, 11, 12, 13, 14, 15, 16, 17, 18, 19, 20, 21, 22, 23, 24, 25, 7, 26, 27, 28, 29, 30, 31, 32, 33, 34, 35, 36, 37, 38, 39, 40, 41, 42, 43, 44, 45, 46, 47, 48, 49, 50, 51, 52, 53, 54, 55, 56, 57, 58, 59, 60, 61, 62, 63, 64, 65, 66, 67, 68, 69, 70, 71, 72, 73, 74, 75, 76, 77, 78, 79, 80, 81, 82, 83, 84, 85, 86, 87, 88, 89, 90, 91, 92, 93, 94, 95, 96, 97, 98, 99, 100, 101, 102, 103, 104, 105, 106, 107, 108, 109, 110, 111, 112, 113, 114, 115, 116, 117, 118, 119, 120, 121, 122, 123, 124, 125, 126, 127, 128, 129, 130, 131, 132, 133, 142, 143, 144, 145, 146, 147, 148, 149, 150, 151, 152, 153, 154, 155, 156, 137, 138, 139, 140, 141, 157, 158, 159, 160, 161, 162, 163, 164] (by decide +kernel) (by decide +kernel)
set_option maxRecDepth 20000 in
theorem gX5_run_X5_takeTurn : GoodIn wsX5_run (wsV RX5 87 RX5 yX5_takeTurn wsX5_takeTurn) := goodIn_app (goodIn_of _ (by decide +kernel)) ggX5_run_X5_takeTurn
set_option maxRecDepth 20000 in
theorem ggX5_run_X5_isWaiting : GoodIn wsX5_run wsX5_isWaiting := goodIn_r _ [136] (by decide +kernel) (by decide +kernel)
set_option maxRecDepth 20000 in
theorem gX5_run_X5_isWaiting : GoodIn wsX5_run (va_wsS RX5 92 yX5_isWaiting wsX5_isWaiting) := goodIn_app (goodIn_of _ (by decide +kernel)) ggX5_run_X5_isWaiting
theorem dX5_run_0 : decode cX5_run 0 = .ok (.iconst 0, 1) := by decide +kernel
theorem dX5_run_1 : decode cX5_run 1 = .ok (.istore_n 1, 1) := by decide +kernel
theorem dX5_run_2 : decode cX5_run 2 = .ok (.iconst 1, 1) := by decide +kernel
theorem dX5_run_3 : decode cX5_run 3 = .ok (.istore_n 2, 1) := by decide +kernel
theorem dX5_run_4 : decode cX5_run 4 = .ok (.iconst 0, 1) := by decide +kernel
theorem dX5_run_5 : decode cX5_run 5 = .ok (.istore_n 3, 1) := by decide +kernel
theorem dX5_run_6 : decode cX5_run 6 = .ok (.iload_n 2, 1) := by decide +kernel
theorem dX5_run_7 : decode cX5_run 7 = .ok (.ifCond .eq 85, 3) := by decide +kernel
theorem dX5_run_10 : decode cX5_run 10 = .ok (.iload_n 3, 1) := by decide +kernel
theorem dX5_run_11 : decode cX5_run 11 = .ok (.ldc 91, 2) := by decide +kernel
theorem dX5_run_13 : decode cX5_run 13 = .ok (.if_icmp .ge 79, 3) := by decide +kernel
theorem dX5_run_16 : decode cX5_run 16 = .ok (.iconst 0, 1) := by decide +kernel
theorem dX5_run_17 : decode cX5_run 17 = .ok (.istore_n 2, 1) := by decide +kernel
theorem dX5_run_18 : decode cX5_run 18 = .ok (.iconst 0, 1) := by decide +kernel
theorem dX5_run_19 : decode cX5_run 19 = .ok (.istore 4, 2) := by decide +kernel
theorem dX5_run_21 : decode cX5_run 21 = .ok (.iload 4, 2) := by decide +kernel
theorem dX5_run_23 : decode cX5_run 23 = .ok (.aload_n 0, 1) := by decide +kernel
theorem dX5_run_24 : decode cX5_run 24 = .ok (.getfield 39, 3) := by decide +kernel
theorem dX5_run_27 : decode cX5_run 27 = .ok (.if_icmp .ge 59, 3) := by decide +kernel
theorem dX5_run_30 : decode cX5_run 30 = .ok (.aload_n 0, 1) := by decide +kernel
theorem dX5_run_31 : decode cX5_run 31 = .ok (.aload_n 0, 1) := by decide +kernel
theorem dX5_run_32 : decode cX5_run 32 = .ok (.getfield 11, 3) := by decide +kernel
theorem dX5_run_35 : decode cX5_run 35 = .ok (.iload 4, 2) := by decide +kernel
theorem dX5_run_37 : decode cX5_run 37 = .ok (.aaload, 1) := by decide +kernel
theorem dX5_run_38 : decode cX5_run 38 = .ok (.invokevirtual 87, 3) := by decide +kernel
theorem dX5_run_41 : decode cX5_run 41 = .ok (.istore 5, 2) := by decide +kernel
theorem dX5_run_43 : decode cX5_run 43 = .ok (.iload_n 2, 1) := by decide +kernel
theorem dX5_run_44 : decode cX5_run 44 = .ok (.ifCond .ne 16, 3) := by decide +kernel
theorem dX5_run_47 : decode cX5_run 47 = .ok (.iload 5, 2) := by decide +kernel
theorem dX5_run_49 : decode cX5_run 49 = .ok (.ifCond .eq 15, 3) := by decide +kernel
theorem dX5_run_52 : decode cX5_run 52 = .ok (.iload 5, 2) := by decide +kernel
theorem dX5_run_54 : decode cX5_run 54 = .ok (.invokestatic 92, 3) := by decide +kernel
theorem dX5_run_57 : decode cX5_run 57 = .ok (.ifCond .ne 7, 3) := by decide +kernel
theorem dX5_run_60 : decode cX5_run 60 = .ok (.iconst 1, 1) := by decide +kernel
theorem dX5_run_61 : decode cX5_run 61 = .ok (.goto 4, 3) := by decide +kernel
theorem dX5_run_64 : decode cX5_run 64 = .ok (.iconst 0, 1) := by decide +kernel
theorem dX5_run_65 : decode cX5_run 65 = .ok (.istore_n 2, 1) := by decide +kernel
theorem dX5_run_66 : decode cX5_run 66 = .ok (.iload_n 1, 1) := by decide +kernel
theorem dX5_run_67 : decode cX5_run 67 = .ok (.iload 5, 2) := by decide +kernel
theorem dX5_run_69 : decode cX5_run 69 = .ok (.iconst 2, 1) := by decide +kernel
theorem dX5_run_70 : decode cX5_run 70 = .ok (.if_icmp .ne 7, 3) := by decide +kernel
theorem dX5_run_73 : decode cX5_run 73 = .ok (.iconst 1, 1) := by decide +kernel
theorem dX5_run_74 : decode cX5_run 74 = .ok (.goto 4, 3) := by decide +kernel
theorem dX5_run_77 : decode cX5_run 77 = .ok (.iconst 0, 1) := by decide +kernel
theorem dX5_run_78 : decode cX5_run 78 = .ok (.iadd, 1) := by decide +kernel
theorem dX5_run_79 : decode cX5_run 79 = .ok (.istore_n 1, 1) := by decide +kernel
theorem dX5_run_80 : decode cX5_run 80 = .ok (.iinc 4 1, 3) := by decide +kernel
theorem dX5_run_83 : decode cX5_run 83 = .ok (.goto (-62), 3) := by decide +kernel
theorem dX5_run_86 : decode cX5_run 86 = .ok (.iinc 3 1, 3) := by decide +kernel
theorem dX5_run_89 : decode cX5_run 89 = .ok (.goto (-83), 3) := by decide +kernel
theorem dX5_run_92 : decode cX5_run 92 = .ok (.iload_n 1, 1) := by decide +kernel
theorem dX5_run_93 : decode cX5_run 93 = .ok (.ireturn, 1) := by decide +kernel
set_option maxRecDepth 20000 in
theorem ggX5_ring_X5_greatestInRingOf : GoodIn wsX5_ring wsX5_greatestInRingOf := goodIn_r _ [7, 8, 9, 10, 11, 12, 13, 14, 15, 16, 17, 18, 19, 20, 21, 22, 23, 24, 25, 26, 27, 28, 29, 30, 31, 51, 52, 53, 54, 55, 56, 57, 58, 59, 60, 61, 62] (by decide +kernel) (by decide +kernel)
set_option maxRecDepth 20000 in
theorem gX5_ring_X5_greatestInRingOf : GoodIn wsX5_ring (wsV RX5 95 RX5 yX5_greatestInRingOf wsX5_greatestInRingOf) := goodIn_app (goodIn_of _ (by decide +kernel)) ggX5_ring_X5_greatestInRingOf
set_option maxRecDepth 20000 in
theorem ggX5_ring_X5_undo : GoodIn wsX5_ring wsX5_undo := goodIn_r _ [35, 8, 36, 37, 38, 16, 39, 19, 40, 41, 42, 43, 44, 45, 18, 46, 47, 48, 23, 49, 31, 25, 26, 50, 21, 22, 24, 27, 28, 29, 30, 51, 52, 53, 54, 55, 63, 64, 65, 66, 67, 68, 69, 70, 71, 72, 73, 74, 56, 57, 58, 59, 60, 61, 62] (by decide +kernel) (by decide +kernel)
set_option maxRecDepth 20000 in
theorem gX5_ring_X5_undo : GoodIn wsX5_ring (wsV RX5 99 RX5 yX5_undo wsX5_undo) := goodIn_app (goodIn_of _ (by decide +kernel)) ggX5_ring_X5_undo
theorem dX5_ring_0 : decode cX5_ring 0 = .ok (.iconst 0, 1) := by decide +kernel
theorem dX5_ring_1 : decode cX5_ring 1 = .ok (.istore_n 1, 1) := by decide +kernel
theorem dX5_ring_2 : decode cX5_ring 2 = .ok (.iload_n 1, 1) := by decide +kernel
theorem dX5_ring_3 : decode cX5_ring 3 = .ok (.aload_n 0, 1) := by decide +kernel
theorem dX5_ring_4 : decode cX5_ring 4 = .ok (.getfield 39, 3) := by decide +kernel
theorem dX5_ring_7 : decode cX5_ring 7 = .ok (.if_icmp .ge 33, 3) := by decide +kernel
theorem dX5_ring_10 : decode cX5_ring 10 = .ok (.aload_n 0, 1) := by decide +kernel
theorem dX5_ring_11 : decode cX5_ring 11 = .ok (.iload_n 1, 1) := by decide +kernel
theorem dX5_ring_12 : decode cX5_ring 12 = .ok (.invokevirtual 95, 3) := by decide +kernel
theorem dX5_ring_15 : decode cX5_ring 15 = .ok (.istore_n 2, 1) := by decide +kernel
theorem dX5_ring_16 : decode cX5_ring 16 = .ok (.iload_n 2, 1) := by decide +kernel
theorem dX5_ring_17 : decode cX5_ring 17 = .ok (.iconst (-1), 1) := by decide +kernel
theorem dX5_ring_18 : decode cX5_ring 18 = .ok (.if_icmp .eq 16, 3) := by decide +kernel
theorem dX5_ring_21 : decode cX5_ring 21 = .ok (.aload_n 0, 1) := by decide +kernel
theorem dX5_ring_22 : decode cX5_ring 22 = .ok (.aload_n 0, 1) := by decide +kernel
theorem dX5_ring_23 : decode cX5_ring 23 = .ok (.getfield 11, 3) := by decide +kernel
