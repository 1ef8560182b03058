theorem dX5_ring_26 : decode cX5_ring 26 = .ok (.iload_n 2, 1) := by decide +kernel
theorem dX5_ring_27 : decode cX5_ring 27 = .ok (.aaload, 1) := by decide +kernel
theorem dX5_ring_28 : decode cX5_ring 28 = .ok (.iconst 3, 1) := by decide +kernel
theorem dX5_ring_29 : decode cX5_ring 29 = .ok (.invokevirtual 99, 3) := by decide +kernel
theorem dX5_ring_32 : decode cX5_ring 32 = .ok (.iload_n 2, 1) := by decide +kernel
theorem dX5_ring_33 : decode cX5_ring 33 = .ok (.ireturn, 1) := by decide +kernel
theorem dX5_ring_34 : decode cX5_ring 34 = .ok (.iinc 1 1, 3) := by decide +kernel
theorem dX5_ring_37 : decode cX5_ring 37 = .ok (.goto (-35), 3) := by decide +kernel
theorem dX5_ring_40 : decode cX5_ring 40 = .ok (.iconst (-1), 1) := by decide +kernel
theorem dX5_ring_41 : decode cX5_ring 41 = .ok (.ireturn, 1) := by decide +kernel
set_option maxRecDepth 20000 in
theorem ggX5_interrupt_X5_find : GoodIn wsX5_interrupt wsX5_find := goodIn_r _ [5, 6, 7, 8, 9, 4, 10, 11, 61, 62, 63, 64, 65] (by decide +kernel) (by decide +kernel)
set_option maxRecDepth 20000 in
theorem gX5_interrupt_X5_find : GoodIn wsX5_interrupt (wsV RX5 52 RX5 yX5_find wsX5_find) := goodIn_app (goodIn_of _ (by decide +kernel)) ggX5_interrupt_X5_find
set_option maxRecDepth 20000 in
theorem ggX5_interrupt_X5_isWaiting : GoodIn wsX5_interrupt wsX5_isWaiting := goodIn_r _ [14] (by decide +kernel) (by decide +kernel)
set_option maxRecDepth 20000 in
theorem gX5_interrupt_X5_isWaiting : GoodIn wsX5_interrupt (va_wsS RX5 92 yX5_isWaiting wsX5_isWaiting) := goodIn_app (goodIn_of _ (by decide +kernel)) ggX5_interrupt_X5_isWaiting
set_option maxRecDepth 20000 in
theorem ggX5_interrupt_X5_undo : GoodIn wsX5_interrupt wsX5_undo := goodIn_r _ [18, 19, 20, 21, 22, 23, 24, 25, 26, 27, 28, 29, 30, 31, 32, 33, 34, 35, 36, 37, 38, 39, 40, 41, 42, 43, 44, 45, 46, 47, 48, 61, 62, 63, 64, 65, 49, 50, 51, 52, 53, 54, 55, 56, 57, 58, 59, 60, 66, 67, 68, 69, 70, 71, 72] (by decide +kernel) (by decide +kernel)
set_option maxRecDepth 20000 in
theorem gX5_interrupt_X5_undo : GoodIn wsX5_interrupt (wsV RX5 99 RX5 yX5_undo wsX5_undo) := goodIn_app (goodIn_of _ (by decide +kernel)) ggX5_interrupt_X5_undo
theorem dX5_interrupt_0 : decode cX5_interrupt 0 = .ok (.aload_n 0, 1) := by decide +kernel
theorem dX5_interrupt_1 : decode cX5_interrupt 1 = .ok (.iload_n 1, 1) := by decide +kernel
theorem dX5_interrupt_2 : decode cX5_interrupt 2 = .ok (.invokevirtual 52, 3) := by decide +kernel
theorem dX5_interrupt_5 : decode cX5_interrupt 5 = .ok (.astore_n 2, 1) := by decide +kernel
theorem dX5_interrupt_6 : decode cX5_interrupt 6 = .ok (.aload_n 2, 1) := by decide +kernel
theorem dX5_interrupt_7 : decode cX5_interrupt 7 = .ok (.ifnonnull 5, 3) := by decide +kernel
theorem dX5_interrupt_10 : decode cX5_interrupt 10 = .ok (.iconst (-1), 1) := by decide +kernel
theorem dX5_interrupt_11 : decode cX5_interrupt 11 = .ok (.ireturn, 1) := by decide +kernel
theorem dX5_interrupt_12 : decode cX5_interrupt 12 = .ok (.aload_n 2, 1) := by decide +kernel
theorem dX5_interrupt_13 : decode cX5_interrupt 13 = .ok (.getfield 103, 3) := by decide +kernel
theorem dX5_interrupt_16 : decode cX5_interrupt 16 = .ok (.ifCond .ne 13, 3) := by decide +kernel
theorem dX5_interrupt_19 : decode cX5_interrupt 19 = .ok (.aload_n 2, 1) := by decide +kernel
theorem dX5_interrupt_20 : decode cX5_interrupt 20 = .ok (.getfield 106, 3) := by decide +kernel
theorem dX5_interrupt_23 : decode cX5_interrupt 23 = .ok (.invokestatic 92, 3) := by decide +kernel
theorem dX5_interrupt_26 : decode cX5_interrupt 26 = .ok (.ifCond .ne 6, 3) := by decide +kernel
theorem dX5_interrupt_29 : decode cX5_interrupt 29 = .ok (.bipush (-3), 2) := by decide +kernel
theorem dX5_interrupt_31 : decode cX5_interrupt 31 = .ok (.ireturn, 1) := by decide +kernel
theorem dX5_interrupt_32 : decode cX5_interrupt 32 = .ok (.aload_n 0, 1) := by decide +kernel
theorem dX5_interrupt_33 : decode cX5_interrupt 33 = .ok (.aload_n 2, 1) := by decide +kernel
theorem dX5_interrupt_34 : decode cX5_interrupt 34 = .ok (.iconst 4, 1) := by decide +kernel
theorem dX5_interrupt_35 : decode cX5_interrupt 35 = .ok (.invokevirtual 99, 3) := by decide +kernel
theorem dX5_interrupt_38 : decode cX5_interrupt 38 = .ok (.iconst 1, 1) := by decide +kernel
theorem dX5_interrupt_39 : decode cX5_interrupt 39 = .ok (.ireturn, 1) := by decide +kernel
set_option maxRecDepth 20000 in
theorem ggX5_again_X5_find : GoodIn wsX5_again wsX5_find := goodIn_r _ [5, 6, 7, 8, 9, 4, 10, 11, 35, 36, 37, 38, 39] (by decide +kernel) (by decide +kernel)
set_option maxRecDepth 20000 in
theorem gX5_again_X5_find : GoodIn wsX5_again (wsV RX5 52 RX5 yX5_find wsX5_find) := goodIn_app (goodIn_of _ (by decide +kernel)) ggX5_again_X5_find
set_option maxRecDepth 20000 in
theorem ggX5_again_X4_beginAgain : GoodIn wsX5_again wsX4_beginAgain := goodIn_r _ [16, 17, 18, 19, 20, 21, 22, 23, 24, 25, 26, 27, 28, 29, 30, 31, 32, 33, 34] (by decide +kernel) (by decide +kernel)
set_option maxRecDepth 20000 in
theorem gX5_again_X4_beginAgain : GoodIn wsX5_again (wsV RX5 109 RX4 yX4_beginAgain wsX4_beginAgain) := goodIn_app (goodIn_of _ (by decide +kernel)) ggX5_again_X4_beginAgain
theorem dX5_again_0 : decode cX5_again 0 = .ok (.aload_n 0, 1) := by decide +kernel
theorem dX5_again_1 : decode cX5_again 1 = .ok (.iload_n 1, 1) := by decide +kernel
theorem dX5_again_2 : decode cX5_again 2 = .ok (.invokevirtual 52, 3) := by decide +kernel
theorem dX5_again_5 : decode cX5_again 5 = .ok (.astore_n 2, 1) := by decide +kernel
theorem dX5_again_6 : decode cX5_again 6 = .ok (.aload_n 2, 1) := by decide +kernel
theorem dX5_again_7 : decode cX5_again 7 = .ok (.ifnonnull 5, 3) := by decide +kernel
theorem dX5_again_10 : decode cX5_again 10 = .ok (.iconst (-1), 1) := by decide +kernel
theorem dX5_again_11 : decode cX5_again 11 = .ok (.ireturn, 1) := by decide +kernel
theorem dX5_again_12 : decode cX5_again 12 = .ok (.aload_n 2, 1) := by decide +kernel
theorem dX5_again_13 : decode cX5_again 13 = .ok (.getfield 103, 3) := by decide +kernel
theorem dX5_again_16 : decode cX5_again 16 = .ok (.iconst 2, 1) := by decide +kernel
theorem dX5_again_17 : decode cX5_again 17 = .ok (.if_icmp .eq 22, 3) := by decide +kernel
theorem dX5_again_20 : decode cX5_again 20 = .ok (.aload_n 2, 1) := by decide +kernel
theorem dX5_again_21 : decode cX5_again 21 = .ok (.getfield 103, 3) := by decide +kernel
theorem dX5_again_24 : decode cX5_again 24 = .ok (.iconst 3, 1) := by decide +kernel
theorem dX5_again_25 : decode cX5_again 25 = .ok (.if_icmp .eq 14, 3) := by decide +kernel
theorem dX5_again_28 : decode cX5_again 28 = .ok (.aload_n 2, 1) := by decide +kernel
theorem dX5_again_29 : decode cX5_again 29 = .ok (.getfield 103, 3) := by decide +kernel
theorem dX5_again_32 : decode cX5_again 32 = .ok (.iconst 4, 1) := by decide +kernel
theorem dX5_again_33 : decode cX5_again 33 = .ok (.if_icmp .eq 6, 3) := by decide +kernel
theorem dX5_again_36 : decode cX5_again 36 = .ok (.bipush (-3), 2) := by decide +kernel
theorem dX5_again_38 : decode cX5_again 38 = .ok (.ireturn, 1) := by decide +kernel
theorem dX5_again_39 : decode cX5_again 39 = .ok (.aload_n 2, 1) := by decide +kernel
theorem dX5_again_40 : decode cX5_again 40 = .ok (.invokevirtual 109, 3) := by decide +kernel
theorem dX5_again_43 : decode cX5_again 43 = .ok (.aload_n 2, 1) := by decide +kernel
theorem dX5_again_44 : decode cX5_again 44 = .ok (.getfield 112, 3) := by decide +kernel
theorem dX5_again_47 : decode cX5_again 47 = .ok (.ireturn, 1) := by decide +kernel
set_option maxRecDepth 20000 in
theorem ggX5_close_X5_undo : GoodIn wsX5_close wsX5_undo := goodIn_r _ [7, 8, 9, 10, 11, 12, 13, 14, 15, 16, 17, 18, 19, 20, 21, 22, 23, 24, 25, 26, 27, 28, 29, 30, 31, 32, 33, 34, 35, 36, 37, 38, 39, 40, 41, 42, 43, 44, 45, 46, 47, 48, 49, 50, 51, 52, 53, 54, 55, 56, 57, 58, 59, 60, 61] (by decide +kernel) (by decide +kernel)
set_option maxRecDepth 20000 in
theorem gX5_close_X5_undo : GoodIn wsX5_close (wsV RX5 99 RX5 yX5_undo wsX5_undo) := goodIn_app (goodIn_of _ (by decide +kernel)) ggX5_close_X5_undo
theorem dX5_close_0 : decode cX5_close 0 = .ok (.iconst 0, 1) := by decide +kernel
theorem dX5_close_1 : decode cX5_close 1 = .ok (.istore_n 1, 1) := by decide +kernel
theorem dX5_close_2 : decode cX5_close 2 = .ok (.aload_n 0, 1) := by decide +kernel
theorem dX5_close_3 : decode cX5_close 3 = .ok (.getfield 39, 3) := by decide +kernel
theorem dX5_close_6 : decode cX5_close 6 = .ok (.iconst 1, 1) := by decide +kernel
theorem dX5_close_7 : decode cX5_close 7 = .ok (.isub, 1) := by decide +kernel
theorem dX5_close_8 : decode cX5_close 8 = .ok (.istore_n 2, 1) := by decide +kernel
theorem dX5_close_9 : decode cX5_close 9 = .ok (.iload_n 2, 1) := by decide +kernel
theorem dX5_close_10 : decode cX5_close 10 = .ok (.ifCond .lt 35, 3) := by decide +kernel
theorem dX5_close_13 : decode cX5_close 13 = .ok (.aload_n 0, 1) := by decide +kernel
theorem dX5_close_14 : decode cX5_close 14 = .ok (.getfield 11, 3) := by decide +kernel
theorem dX5_close_17 : decode cX5_close 17 = .ok (.iload_n 2, 1) := by decide +kernel
theorem dX5_close_18 : decode cX5_close 18 = .ok (.aaload, 1) := by decide +kernel
theorem dX5_close_19 : decode cX5_close 19 = .ok (.getfield 103, 3) := by decide +kernel
theorem dX5_close_22 : decode cX5_close 22 = .ok (.ifCond .ne 17, 3) := by decide +kernel
theorem dX5_close_25 : decode cX5_close 25 = .ok (.aload_n 0, 1) := by decide +kernel
theorem dX5_close_26 : decode cX5_close 26 = .ok (.aload_n 0, 1) := by decide +kernel
theorem dX5_close_27 : decode cX5_close 27 = .ok (.getfield 11, 3) := by decide +kernel
theorem dX5_close_30 : decode cX5_close 30 = .ok (.iload_n 2, 1) := by decide +kernel
theorem dX5_close_31 : decode cX5_close 31 = .ok (.aaload, 1) := by decide +kernel
theorem dX5_close_32 : decode cX5_close 32 = .ok (.iconst 5, 1) := by decide +kernel
theorem dX5_close_33 : decode cX5_close 33 = .ok (.invokevirtual 99, 3) := by decide +kernel
theorem dX5_close_36 : decode cX5_close 36 = .ok (.iinc 1 1, 3) := by decide +kernel
theorem dX5_close_39 : decode cX5_close 39 = .ok (.iinc 2 (-1), 3) := by decide +kernel
theorem dX5_close_42 : decode cX5_close 42 = .ok (.goto (-33), 3) := by decide +kernel
theorem dX5_close_45 : decode cX5_close 45 = .ok (.iload_n 1, 1) := by decide +kernel
theorem dX5_close_46 : decode cX5_close 46 = .ok (.ireturn, 1) := by decide +kernel
set_option maxRecDepth 20000 in
theorem ggX5_state_X5_find : GoodIn wsX5_state wsX5_find := goodIn_r _ [6, 7, 8, 9, 10, 5, 11, 12, 31, 32, 33, 34, 35] (by decide +kernel) (by decide +kernel)
set_option maxRecDepth 20000 in
theorem gX5_state_X5_find : GoodIn wsX5_state (wsV RX5 52 RX5 yX5_find wsX5_find) := goodIn_app (goodIn_of _ (by decide +kernel)) ggX5_state_X5_find
set_option maxRecDepth 20000 in
theorem ggX5_state_X3_countOf : GoodIn wsX5_state wsX3_countOf := goodIn_r _ [17, 18, 36, 37, 38, 39] (by decide +kernel) (by decide +kernel)
set_option maxRecDepth 20000 in
theorem gX5_state_X3_countOf : GoodIn wsX5_state (wsV RX5 121 RX3 yX3_countOf wsX3_countOf) := goodIn_app (goodIn_of _ (by decide +kernel)) ggX5_state_X3_countOf
theorem dX5_state_0 : decode cX5_state 0 = .ok (.aload_n 0, 1) := by decide +kernel
theorem dX5_state_1 : decode cX5_state 1 = .ok (.iload_n 1, 1) := by decide +kernel
theorem dX5_state_2 : decode cX5_state 2 = .ok (.invokevirtual 52, 3) := by decide +kernel
theorem dX5_state_5 : decode cX5_state 5 = .ok (.astore_n 3, 1) := by decide +kernel
theorem dX5_state_6 : decode cX5_state 6 = .ok (.aload_n 3, 1) := by decide +kernel
theorem dX5_state_7 : decode cX5_state 7 = .ok (.ifnonnull 5, 3) := by decide +kernel
theorem dX5_state_10 : decode cX5_state 10 = .ok (.iconst (-1), 1) := by decide +kernel
theorem dX5_state_11 : decode cX5_state 11 = .ok (.ireturn, 1) := by decide +kernel
theorem dX5_state_12 : decode cX5_state 12 = .ok (.iload_n 2, 1) := by decide +kernel
theorem dX5_state_13 : decode cX5_state 13 = .ok (.tableswitch 67 0 4 #[35, 40, 45, 50, 62], 35) := by decide +kernel
theorem dX5_state_48 : decode cX5_state 48 = .ok (.aload_n 3, 1) := by decide +kernel
theorem dX5_state_49 : decode cX5_state 49 = .ok (.getfield 103, 3) := by decide +kernel
theorem dX5_state_52 : decode cX5_state 52 = .ok (.ireturn, 1) := by decide +kernel
theorem dX5_state_53 : decode cX5_state 53 = .ok (.aload_n 3, 1) := by decide +kernel
theorem dX5_state_54 : decode cX5_state 54 = .ok (.getfield 115, 3) := by decide +kernel
theorem dX5_state_57 : decode cX5_state 57 = .ok (.ireturn, 1) := by decide +kernel
theorem dX5_state_58 : decode cX5_state 58 = .ok (.aload_n 3, 1) := by decide +kernel
theorem dX5_state_59 : decode cX5_state 59 = .ok (.getfield 118, 3) := by decide +kernel
theorem dX5_state_62 : decode cX5_state 62 = .ok (.ireturn, 1) := by decide +kernel
theorem dX5_state_63 : decode cX5_state 63 = .ok (.aload_n 0, 1) := by decide +kernel
theorem dX5_state_64 : decode cX5_state 64 = .ok (.getfield 18, 3) := by decide +kernel
theorem dX5_state_67 : decode cX5_state 67 = .ok (.aload_n 3, 1) := by decide +kernel
theorem dX5_state_68 : decode cX5_state 68 = .ok (.getfield 49, 3) := by decide +kernel
theorem dX5_state_71 : decode cX5_state 71 = .ok (.invokevirtual 121, 3) := by decide +kernel
theorem dX5_state_74 : decode cX5_state 74 = .ok (.ireturn, 1) := by decide +kernel
theorem dX5_state_75 : decode cX5_state 75 = .ok (.aload_n 3, 1) := by decide +kernel
theorem dX5_state_76 : decode cX5_state 76 = .ok (.getfield 124, 3) := by decide +kernel
theorem dX5_state_79 : decode cX5_state 79 = .ok (.ireturn, 1) := by decide +kernel
theorem dX5_state_80 : decode cX5_state 80 = .ok (.iconst (-1), 1) := by decide +kernel
theorem dX5_state_81 : decode cX5_state 81 = .ok (.ireturn, 1) := by decide +kernel
set_option maxRecDepth 20000 in
theorem ggX5_has_X5_isCopy : GoodIn wsX5_has wsX5_isCopy := goodIn_r _ [5] (by decide +kernel) (by decide +kernel)
set_option maxRecDepth 20000 in
theorem gX5_has_X5_isCopy : GoodIn wsX5_has (va_wsS RX5 64 yX5_isCopy wsX5_isCopy) := goodIn_app (goodIn_of _ (by decide +kernel)) ggX5_has_X5_isCopy
theorem dX5_has_0 : decode cX5_has 0 = .ok (.iload_n 1, 1) := by decide +kernel
theorem dX5_has_1 : decode cX5_has 1 = .ok (.invokestatic 64, 3) := by decide +kernel
theorem dX5_has_4 : decode cX5_has 4 = .ok (.ifCond .eq 15, 3) := by decide +kernel
theorem dX5_has_7 : decode cX5_has 7 = .ok (.aload_n 0, 1) := by decide +kernel
theorem dX5_has_8 : decode cX5_has 8 = .ok (.getfield 18, 3) := by decide +kernel
theorem dX5_has_11 : decode cX5_has 11 = .ok (.getfield 127, 3) := by decide +kernel
theorem dX5_has_14 : decode cX5_has 14 = .ok (.iload_n 1, 1) := by decide +kernel
theorem dX5_has_15 : decode cX5_has 15 = .ok (.iaload, 1) := by decide +kernel
theorem dX5_has_16 : decode cX5_has 16 = .ok (.goto 4, 3) := by decide +kernel
theorem dX5_has_19 : decode cX5_has 19 = .ok (.iconst (-1), 1) := by decide +kernel
theorem dX5_has_20 : decode cX5_has 20 = .ok (.ireturn, 1) := by decide +kernel
set_option maxRecDepth 20000 in
theorem ggX5_line_X2_item : GoodIn wsX5_line wsX2_item := goodIn_r _ [6, 7, 8, 9, 10, 11, 5, 12, 13, 23, 24, 25] (by decide +kernel) (by decide +kernel)
set_option maxRecDepth 20000 in
theorem gX5_line_X2_item : GoodIn wsX5_line (wsV RX5 134 RX2 yX2_item wsX2_item) := goodIn_app (goodIn_of _ (by decide +kernel)) ggX5_line_X2_item
theorem dX5_line_0 : decode cX5_line 0 = .ok (.aload_n 0, 1) := by decide +kernel
theorem dX5_line_1 : decode cX5_line 1 = .ok (.getfield 18, 3) := by decide +kernel
theorem dX5_line_4 : decode cX5_line 4 = .ok (.getfield 131, 3) := by decide +kernel
theorem dX5_line_7 : decode cX5_line 7 = .ok (.iload_n 1, 1) := by decide +kernel
theorem dX5_line_8 : decode cX5_line 8 = .ok (.iload_n 2, 1) := by decide +kernel
theorem dX5_line_9 : decode cX5_line 9 = .ok (.invokevirtual 134, 3) := by decide +kernel
theorem dX5_line_12 : decode cX5_line 12 = .ok (.ireturn, 1) := by decide +kernel
set_option maxRecDepth 20000 in
theorem ggX5_value_X5_isCopy : GoodIn wsX5_value wsX5_isCopy := goodIn_r _ [7] (by decide +kernel) (by decide +kernel)
set_option maxRecDepth 20000 in
theorem gX5_value_X5_isCopy : GoodIn wsX5_value (va_wsS RX5 64 yX5_isCopy wsX5_isCopy) := goodIn_app (goodIn_of _ (by decide +kernel)) ggX5_value_X5_isCopy
theorem dX5_value_0 : decode cX5_value 0 = .ok (.iload_n 1, 1) := by decide +kernel
theorem dX5_value_1 : decode cX5_value 1 = .ok (.invokestatic 64, 3) := by decide +kernel
theorem dX5_value_4 : decode cX5_value 4 = .ok (.ifCond .ne 13, 3) := by decide +kernel
theorem dX5_value_7 : decode cX5_value 7 = .ok (.new 137, 3) := by decide +kernel
theorem dX5_value_10 : decode cX5_value 10 = .ok (.dup, 1) := by decide +kernel
theorem dX5_value_11 : decode cX5_value 11 = .ok (.ldc 139, 2) := by decide +kernel
theorem dX5_value_13 : decode cX5_value 13 = .ok (.invokespecial 141, 3) := by decide +kernel
theorem dX5_value_16 : decode cX5_value 16 = .ok (.athrow, 1) := by decide +kernel
theorem dX5_value_17 : decode cX5_value 17 = .ok (.aload_n 0, 1) := by decide +kernel
theorem dX5_value_18 : decode cX5_value 18 = .ok (.getfield 18, 3) := by decide +kernel
theorem dX5_value_21 : decode cX5_value 21 = .ok (.getfield 144, 3) := by decide +kernel
theorem dX5_value_24 : decode cX5_value 24 = .ok (.iload_n 1, 1) := by decide +kernel
theorem dX5_value_25 : decode cX5_value 25 = .ok (.iaload, 1) := by decide +kernel
theorem dX5_value_26 : decode cX5_value 26 = .ok (.ireturn, 1) := by decide +kernel
set_option maxRecDepth 20000 in
theorem ggX5_log_X2_item : GoodIn wsX5_log wsX2_item := goodIn_r _ [6, 7, 8, 9, 10, 11, 5, 12, 13, 20, 21, 22] (by decide +kernel) (by decide +kernel)
set_option maxRecDepth 20000 in
theorem gX5_log_X2_item : GoodIn wsX5_log (wsV RX5 134 RX2 yX2_item wsX2_item) := goodIn_app (goodIn_of _ (by decide +kernel)) ggX5_log_X2_item
theorem dX5_log_0 : decode cX5_log 0 = .ok (.aload_n 0, 1) := by decide +kernel
theorem dX5_log_1 : decode cX5_log 1 = .ok (.getfield 32, 3) := by decide +kernel
theorem dX5_log_4 : decode cX5_log 4 = .ok (.getfield 147, 3) := by decide +kernel
theorem dX5_log_7 : decode cX5_log 7 = .ok (.iconst 0, 1) := by decide +kernel
theorem dX5_log_8 : decode cX5_log 8 = .ok (.iload_n 1, 1) := by decide +kernel
theorem dX5_log_9 : decode cX5_log 9 = .ok (.invokevirtual 134, 3) := by decide +kernel
theorem dX5_log_12 : decode cX5_log 12 = .ok (.ireturn, 1) := by decide +kernel
set_option maxRecDepth 20000 in
theorem ggX5_mail_X5_find : GoodIn wsX5_mail wsX5_find := goodIn_r _ [6, 7, 8, 9, 10, 5, 11, 12, 31, 32, 33, 34, 35] (by decide +kernel) (by decide +kernel)
set_option maxRecDepth 20000 in
theorem gX5_mail_X5_find : GoodIn wsX5_mail (wsV RX5 52 RX5 yX5_find wsX5_find) := goodIn_app (goodIn_of _ (by decide +kernel)) ggX5_mail_X5_find
set_option maxRecDepth 20000 in
theorem ggX5_mail_X5_isOther : GoodIn wsX5_mail wsX5_isOther := goodIn_r _ [16, 8, 9, 10, 5, 11, 12, 31, 32, 33, 34, 35] (by decide +kernel) (by decide +kernel)
set_option maxRecDepth 20000 in
theorem gX5_mail_X5_isOther : GoodIn wsX5_mail (wsV RX5 60 RX5 yX5_isOther wsX5_isOther) := goodIn_app (goodIn_of _ (by decide +kernel)) ggX5_mail_X5_isOther
set_option maxRecDepth 20000 in
theorem ggX5_mail_X1_way : GoodIn wsX5_mail wsX1_way := goodIn_r _ [20] (by decide +kernel) (by decide +kernel)
set_option maxRecDepth 20000 in
theorem gX5_mail_X1_way : GoodIn wsX5_mail (va_wsS RX5 148 yX1_way wsX1_way) := goodIn_app (goodIn_of _ (by decide +kernel)) ggX5_mail_X1_way
set_option maxRecDepth 20000 in
theorem ggX5_mail_X1_countThere : GoodIn wsX5_mail wsX1_countThere := goodIn_r _ [24, 25, 26, 27, 28, 19, 29, 30, 36, 37, 38] (by decide +kernel) (by decide +kernel)
set_option maxRecDepth 20000 in
theorem gX5_mail_X1_countThere : GoodIn wsX5_mail (wsV RX5 151 RX1 yX1_countThere wsX1_countThere) := goodIn_app (goodIn_of _ (by decide +kernel)) ggX5_mail_X1_countThere
theorem dX5_mail_0 : decode cX5_mail 0 = .ok (.aload_n 0, 1) := by decide +kernel
theorem dX5_mail_1 : decode cX5_mail 1 = .ok (.iload_n 1, 1) := by decide +kernel
theorem dX5_mail_2 : decode cX5_mail 2 = .ok (.invokevirtual 52, 3) := by decide +kernel
theorem dX5_mail_5 : decode cX5_mail 5 = .ok (.ifnull 12, 3) := by decide +kernel
theorem dX5_mail_8 : decode cX5_mail 8 = .ok (.aload_n 0, 1) := by decide +kernel
theorem dX5_mail_9 : decode cX5_mail 9 = .ok (.iload_n 1, 1) := by decide +kernel
theorem dX5_mail_10 : decode cX5_mail 10 = .ok (.iload_n 2, 1) := by decide +kernel
theorem dX5_mail_11 : decode cX5_mail 11 = .ok (.invokevirtual 60, 3) := by decide +kernel
theorem dX5_mail_14 : decode cX5_mail 14 = .ok (.ifCond .ne 6, 3) := by decide +kernel
theorem dX5_mail_17 : decode cX5_mail 17 = .ok (.bipush (-2), 2) := by decide +kernel
theorem dX5_mail_19 : decode cX5_mail 19 = .ok (.ireturn, 1) := by decide +kernel
theorem dX5_mail_20 : decode cX5_mail 20 = .ok (.aload_n 0, 1) := by decide +kernel
theorem dX5_mail_21 : decode cX5_mail 21 = .ok (.getfield 25, 3) := by decide +kernel
theorem dX5_mail_24 : decode cX5_mail 24 = .ok (.iload_n 1, 1) := by decide +kernel
theorem dX5_mail_25 : decode cX5_mail 25 = .ok (.iload_n 2, 1) := by decide +kernel
theorem dX5_mail_26 : decode cX5_mail 26 = .ok (.invokestatic 148, 3) := by decide +kernel
theorem dX5_mail_29 : decode cX5_mail 29 = .ok (.invokevirtual 151, 3) := by decide +kernel
theorem dX5_mail_32 : decode cX5_mail 32 = .ok (.ireturn, 1) := by decide +kernel
set_option maxRecDepth 20000 in
theorem ggX5_find_X5_isWork : GoodIn wsX5_find wsX5_isWork := goodIn_r _ [6, 7, 8, 9, 10, 11, 12] (by decide +kernel) (by decide +kernel)
set_option maxRecDepth 20000 in
theorem gX5_find_X5_isWork : GoodIn wsX5_find (wsV RX5 154 RX5 yX5_isWork wsX5_isWork) := goodIn_app (goodIn_of _ (by decide +kernel)) ggX5_find_X5_isWork
theorem dX5_find_0 : decode cX5_find 0 = .ok (.aload_n 0, 1) := by decide +kernel
theorem dX5_find_1 : decode cX5_find 1 = .ok (.iload_n 1, 1) := by decide +kernel
theorem dX5_find_2 : decode cX5_find 2 = .ok (.invokevirtual 154, 3) := by decide +kernel
theorem dX5_find_5 : decode cX5_find 5 = .ok (.ifCond .eq 12, 3) := by decide +kernel
theorem dX5_find_8 : decode cX5_find 8 = .ok (.aload_n 0, 1) := by decide +kernel
theorem dX5_find_9 : decode cX5_find 9 = .ok (.getfield 11, 3) := by decide +kernel
theorem dX5_find_12 : decode cX5_find 12 = .ok (.iload_n 1, 1) := by decide +kernel
theorem dX5_find_13 : decode cX5_find 13 = .ok (.aaload, 1) := by decide +kernel
theorem dX5_find_14 : decode cX5_find 14 = .ok (.goto 4, 3) := by decide +kernel
theorem dX5_find_17 : decode cX5_find 17 = .ok (.aconst_null, 1) := by decide +kernel
theorem dX5_find_18 : decode cX5_find 18 = .ok (.areturn, 1) := by decide +kernel
theorem dX5_isWork_0 : decode cX5_isWork 0 = .ok (.iload_n 1, 1) := by decide +kernel
theorem dX5_isWork_1 : decode cX5_isWork 1 = .ok (.ifCond .lt 15, 3) := by decide +kernel
theorem dX5_isWork_4 : decode cX5_isWork 4 = .ok (.iload_n 1, 1) := by decide +kernel
theorem dX5_isWork_5 : decode cX5_isWork 5 = .ok (.aload_n 0, 1) := by decide +kernel
theorem dX5_isWork_6 : decode cX5_isWork 6 = .ok (.getfield 39, 3) := by decide +kernel
theorem dX5_isWork_9 : decode cX5_isWork 9 = .ok (.if_icmp .ge 7, 3) := by decide +kernel
theorem dX5_isWork_12 : decode cX5_isWork 12 = .ok (.iconst 1, 1) := by decide +kernel
theorem dX5_isWork_13 : decode cX5_isWork 13 = .ok (.goto 4, 3) := by decide +kernel
theorem dX5_isWork_16 : decode cX5_isWork 16 = .ok (.iconst 0, 1) := by decide +kernel
theorem dX5_isWork_17 : decode cX5_isWork 17 = .ok (.ireturn, 1) := by decide +kernel
set_option maxRecDepth 20000 in
theorem ggX5_isOther_X5_isWork : GoodIn wsX5_isOther wsX5_isWork := goodIn_r _ [5, 6, 7, 8, 9, 10, 11] (by decide +kernel) (by decide +kernel)
set_option maxRecDepth 20000 in
theorem gX5_isOther_X5_isWork : GoodIn wsX5_isOther (wsV RX5 154 RX5 yX5_isWork wsX5_isWork) := goodIn_app (goodIn_of _ (by decide +kernel)) ggX5_isOther_X5_isWork
theorem dX5_isOther_0 : decode cX5_isOther 0 = .ok (.aload_n 0, 1) := by decide +kernel
theorem dX5_isOther_1 : decode cX5_isOther 1 = .ok (.iload_n 2, 1) := by decide +kernel
theorem dX5_isOther_2 : decode cX5_isOther 2 = .ok (.invokevirtual 154, 3) := by decide +kernel
theorem dX5_isOther_5 : decode cX5_isOther 5 = .ok (.ifCond .eq 12, 3) := by decide +kernel
theorem dX5_isOther_8 : decode cX5_isOther 8 = .ok (.iload_n 2, 1) := by decide +kernel
theorem dX5_isOther_9 : decode cX5_isOther 9 = .ok (.iload_n 1, 1) := by decide +kernel
theorem dX5_isOther_10 : decode cX5_isOther 10 = .ok (.if_icmp .eq 7, 3) := by decide +kernel
theorem dX5_isOther_13 : decode cX5_isOther 13 = .ok (.iconst 1, 1) := by decide +kernel
theorem dX5_isOther_14 : decode cX5_isOther 14 = .ok (.goto 4, 3) := by decide +kernel
theorem dX5_isOther_17 : decode cX5_isOther 17 = .ok (.iconst 0, 1) := by decide +kernel
theorem dX5_isOther_18 : decode cX5_isOther 18 = .ok (.ireturn, 1) := by decide +kernel
theorem dX5_isCopy_0 : decode cX5_isCopy 0 = .ok (.iload_n 0, 1) := by decide +kernel
theorem dX5_isCopy_1 : decode cX5_isCopy 1 = .ok (.ifCond .lt 13, 3) := by decide +kernel
theorem dX5_isCopy_4 : decode cX5_isCopy 4 = .ok (.iload_n 0, 1) := by decide +kernel
theorem dX5_isCopy_5 : decode cX5_isCopy 5 = .ok (.bipush 10, 2) := by decide +kernel
theorem dX5_isCopy_7 : decode cX5_isCopy 7 = .ok (.if_icmp .ge 7, 3) := by decide +kernel
theorem dX5_isCopy_10 : decode cX5_isCopy 10 = .ok (.iconst 1, 1) := by decide +kernel
theorem dX5_isCopy_11 : decode cX5_isCopy 11 = .ok (.goto 4, 3) := by decide +kernel
theorem dX5_isCopy_14 : decode cX5_isCopy 14 = .ok (.iconst 0, 1) := by decide +kernel
theorem dX5_isCopy_15 : decode cX5_isCopy 15 = .ok (.ireturn, 1) := by decide +kernel
theorem dX5_isWaiting_0 : decode cX5_isWaiting 0 = .ok (.iload_n 0, 1) := by decide +kernel
theorem dX5_isWaiting_1 : decode cX5_isWaiting 1 = .ok (.iconst 3, 1) := by decide +kernel
theorem dX5_isWaiting_2 : decode cX5_isWaiting 2 = .ok (.if_icmp .eq 8, 3) := by decide +kernel
theorem dX5_isWaiting_5 : decode cX5_isWaiting 5 = .ok (.iload_n 0, 1) := by decide +kernel
theorem dX5_isWaiting_6 : decode cX5_isWaiting 6 = .ok (.iconst 4, 1) := by decide +kernel
theorem dX5_isWaiting_7 : decode cX5_isWaiting 7 = .ok (.if_icmp .ne 7, 3) := by decide +kernel
theorem dX5_isWaiting_10 : decode cX5_isWaiting 10 = .ok (.iconst 1, 1) := by decide +kernel
theorem dX5_isWaiting_11 : decode cX5_isWaiting 11 = .ok (.goto 4, 3) := by decide +kernel
theorem dX5_isWaiting_14 : decode cX5_isWaiting 14 = .ok (.iconst 0, 1) := by decide +kernel
theorem dX5_isWaiting_15 : decode cX5_isWaiting 15 = .ok (.ireturn, 1) := by decide +kernel
set_option maxRecDepth 20000 in
theorem ggX5_takeTurn_X4_gotAll : GoodIn wsX5_takeTurn wsX4_gotAll := goodIn_r _ [5, 6, 7, 8, 9, 10, 11, 12, 13, 14, 127, 128, 129, 130, 131, 132, 133, 134, 135, 136, 137, 138, 139, 140, 141] (by decide +kernel) (by decide +kernel)
set_option maxRecDepth 20000 in
theorem gX5_takeTurn_X4_gotAll : GoodIn wsX5_takeTurn (wsV RX5 157 RX4 yX4_gotAll wsX4_gotAll) := goodIn_app (goodIn_of _ (by decide +kernel)) ggX5_takeTurn_X4_gotAll
set_option maxRecDepth 20000 in
theorem ggX5_takeTurn_X5_actOrFail : GoodIn wsX5_takeTurn wsX5_actOrFail := goodIn_r _ [19, 20, 21, 22, 23, 24, 18, 25, 26, 27, 28, 29, 30, 31, 32, 33, 34, 35, 36, 37, 38, 39, 40, 41, 12, 42, 14, 43, 44, 45, 46, 47, 48, 49, 10, 11, 13, 50, 51, 52, 53, 54, 55, 56, 57, 58, 59, 60, 61, 62, 63, 64, 65, 66, 67, 68, 69, 70, 71, 72, 73, 74, 75, 76, 77, 78, 79, 80, 81, 82, 83, 84, 85, 86, 87, 88, 127, 128, 129, 130, 131, 132, 133, 134, 135, 136, 137, 138, 142, 143, 144, 145, 146, 147, 148, 149, 150, 139, 140, 141, 151, 152, 153, 154] (by decide +kernel) (by decide +kernel)
set_option maxRecDepth 20000 in
theorem gX5_takeTurn_X5_actOrFail : GoodIn wsX5_takeTurn (wsV RX5 161 RX5 yX5_actOrFail wsX5_actOrFail) := goodIn_app (goodIn_of _ (by decide +kernel)) ggX5_takeTurn_X5_actOrFail
set_option maxRecDepth 20000 in
theorem ggX5_takeTurn_X5_goForNext : GoodIn wsX5_takeTurn wsX5_goForNext := goodIn_r _ [92, 70, 71, 72, 12, 73, 43, 44, 49, 10, 11, 13, 14, 93, 94, 18, 95, 96, 97, 98, 99, 20, 100, 101, 102, 29, 103, 38, 31, 104, 105, 106, 107, 108, 33, 32, 39, 40, 41, 42, 45, 46, 47, 48, 109, 110, 111, 112, 113, 114, 61, 62, 63, 115, 116, 117, 118, 68, 74, 75, 76, 77, 119, 120, 121, 122, 84, 85, 86, 87, 88, 83, 123, 124, 125, 126, 127, 128, 129, 130, 131, 132, 133, 134, 135, 136, 137, 138, 139, 140, 141, 142, 143, 144, 145, 146, 147, 148, 149, 150, 152, 153, 154] (by decide +kernel) (by decide +kernel)
set_option maxRecDepth 20000 in
theorem gX5_takeTurn_X5_goForNext : GoodIn wsX5_takeTurn (wsV RX5 164 RX5 yX5_goForNext wsX5_goForNext) := goodIn_app (goodIn_of _ (by decide +kernel)) ggX5_takeTurn_X5_goForNext
theorem dX5_takeTurn_0 : decode cX5_takeTurn 0 = .ok (.aload_n 1, 1) := by decide +kernel
theorem dX5_takeTurn_1 : decode cX5_takeTurn 1 = .ok (.getfield 103, 3) := by decide +kernel
theorem dX5_takeTurn_4 : decode cX5_takeTurn 4 = .ok (.ifCond .eq 5, 3) := by decide +kernel
theorem dX5_takeTurn_7 : decode cX5_takeTurn 7 = .ok (.iconst 0, 1) := by decide +kernel
theorem dX5_takeTurn_8 : decode cX5_takeTurn 8 = .ok (.ireturn, 1) := by decide +kernel
theorem dX5_takeTurn_9 : decode cX5_takeTurn 9 = .ok (.aload_n 1, 1) := by decide +kernel
theorem dX5_takeTurn_10 : decode cX5_takeTurn 10 = .ok (.iconst 1, 1) := by decide +kernel
theorem dX5_takeTurn_11 : decode cX5_takeTurn 11 = .ok (.putfield 67, 3) := by decide +kernel
theorem dX5_takeTurn_14 : decode cX5_takeTurn 14 = .ok (.aload_n 1, 1) := by decide +kernel
theorem dX5_takeTurn_15 : decode cX5_takeTurn 15 = .ok (.aload_n 1, 1) := by decide +kernel
theorem dX5_takeTurn_16 : decode cX5_takeTurn 16 = .ok (.invokevirtual 157, 3) := by decide +kernel
theorem dX5_takeTurn_19 : decode cX5_takeTurn 19 = .ok (.ifCond .eq 11, 3) := by decide +kernel
theorem dX5_takeTurn_22 : decode cX5_takeTurn 22 = .ok (.aload_n 0, 1) := by decide +kernel
theorem dX5_takeTurn_23 : decode cX5_takeTurn 23 = .ok (.aload_n 1, 1) := by decide +kernel
theorem dX5_takeTurn_24 : decode cX5_takeTurn 24 = .ok (.invokevirtual 161, 3) := by decide +kernel
theorem dX5_takeTurn_27 : decode cX5_takeTurn 27 = .ok (.goto 8, 3) := by decide +kernel
theorem dX5_takeTurn_30 : decode cX5_takeTurn 30 = .ok (.aload_n 0, 1) := by decide +kernel
theorem dX5_takeTurn_31 : decode cX5_takeTurn 31 = .ok (.aload_n 1, 1) := by decide +kernel
theorem dX5_takeTurn_32 : decode cX5_takeTurn 32 = .ok (.invokevirtual 164, 3) := by decide +kernel
theorem dX5_takeTurn_35 : decode cX5_takeTurn 35 = .ok (.putfield 106, 3) := by decide +kernel
theorem dX5_takeTurn_38 : decode cX5_takeTurn 38 = .ok (.aload_n 1, 1) := by decide +kernel
theorem dX5_takeTurn_39 : decode cX5_takeTurn 39 = .ok (.getfield 106, 3) := by decide +kernel
theorem dX5_takeTurn_42 : decode cX5_takeTurn 42 = .ok (.ireturn, 1) := by decide +kernel
set_option maxRecDepth 20000 in
theorem ggX5_goForNext_X2_item : GoodIn wsX5_goForNext wsX2_item := goodIn_r _ [5, 6, 7, 8, 9, 10, 4, 11, 12, 88, 89, 90] (by decide +kernel) (by decide +kernel)
set_option maxRecDepth 20000 in
theorem gX5_goForNext_X2_item : GoodIn wsX5_goForNext (wsV RX5 134 RX2 yX2_item wsX2_item) := goodIn_app (goodIn_of _ (by decide +kernel)) ggX5_goForNext_X2_item
set_option maxRecDepth 20000 in
theorem ggX5_goForNext_X5_isCopy : GoodIn wsX5_goForNext wsX5_isCopy := goodIn_r _ [16] (by decide +kernel) (by decide +kernel)
set_option maxRecDepth 20000 in
theorem gX5_goForNext_X5_isCopy : GoodIn wsX5_goForNext (va_wsS RX5 64 yX5_isCopy wsX5_isCopy) := goodIn_app (goodIn_of _ (by decide +kernel)) ggX5_goForNext_X5_isCopy
set_option maxRecDepth 20000 in
theorem ggX5_goForNext_X5_goForCopy : GoodIn wsX5_goForNext wsX5_goForCopy := goodIn_r _ [20, 21, 22, 23, 24, 25, 26, 27, 28, 29, 2, 3, 4, 5, 6, 7, 8, 9, 10, 11, 12, 30, 31, 32, 33, 34, 35, 36, 37, 38, 39, 40, 41, 42, 43, 44, 45, 46, 47, 48, 49, 50, 51, 52, 91, 92, 93, 94, 95, 96, 97, 98, 99, 76, 77, 78, 79, 80, 81, 82, 83, 84, 85, 86, 87, 88, 89, 90] (by decide +kernel) (by decide +kernel)
set_option maxRecDepth 20000 in
theorem gX5_goForNext_X5_goForCopy : GoodIn wsX5_goForNext (wsV RX5 167 RX5 yX5_goForCopy wsX5_goForCopy) := goodIn_app (goodIn_of _ (by decide +kernel)) ggX5_goForNext_X5_goForCopy
set_option maxRecDepth 20000 in
theorem ggX5_goForNext_X5_goForMessage : GoodIn wsX5_goForNext wsX5_goForMessage := goodIn_r _ [56, 57, 58, 59, 60, 61, 62, 63, 64, 65, 66, 67, 68, 69, 70, 71, 72, 73, 74, 75, 76, 77, 78, 79, 80, 81, 82, 83, 84, 85, 86, 87, 91, 92, 93, 94, 95, 100, 101, 102] (by decide +kernel) (by decide +kernel)
set_option maxRecDepth 20000 in
theorem gX5_goForNext_X5_goForMessage : GoodIn wsX5_goForNext (wsV RX5 171 RX5 yX5_goForMessage wsX5_goForMessage) := goodIn_app (goodIn_of _ (by decide +kernel)) ggX5_goForNext_X5_goForMessage
theorem dX5_goForNext_0 : decode cX5_goForNext 0 = .ok (.aload_n 1, 1) := by decide +kernel
theorem dX5_goForNext_1 : decode cX5_goForNext 1 = .ok (.getfield 71, 3) := by decide +kernel
theorem dX5_goForNext_4 : decode cX5_goForNext 4 = .ok (.aload_n 1, 1) := by decide +kernel
theorem dX5_goForNext_5 : decode cX5_goForNext 5 = .ok (.getfield 115, 3) := by decide +kernel
theorem dX5_goForNext_8 : decode cX5_goForNext 8 = .ok (.aload_n 1, 1) := by decide +kernel
theorem dX5_goForNext_9 : decode cX5_goForNext 9 = .ok (.getfield 118, 3) := by decide +kernel
theorem dX5_goForNext_12 : decode cX5_goForNext 12 = .ok (.invokevirtual 134, 3) := by decide +kernel
theorem dX5_goForNext_15 : decode cX5_goForNext 15 = .ok (.istore_n 2, 1) := by decide +kernel
theorem dX5_goForNext_16 : decode cX5_goForNext 16 = .ok (.iload_n 2, 1) := by decide +kernel
theorem dX5_goForNext_17 : decode cX5_goForNext 17 = .ok (.invokestatic 64, 3) := by decide +kernel
theorem dX5_goForNext_20 : decode cX5_goForNext 20 = .ok (.ifCond .eq 12, 3) := by decide +kernel
theorem dX5_goForNext_23 : decode cX5_goForNext 23 = .ok (.aload_n 0, 1) := by decide +kernel
theorem dX5_goForNext_24 : decode cX5_goForNext 24 = .ok (.aload_n 1, 1) := by decide +kernel
theorem dX5_goForNext_25 : decode cX5_goForNext 25 = .ok (.iload_n 2, 1) := by decide +kernel
theorem dX5_goForNext_26 : decode cX5_goForNext 26 = .ok (.invokevirtual 167, 3) := by decide +kernel
theorem dX5_goForNext_29 : decode cX5_goForNext 29 = .ok (.goto 12, 3) := by decide +kernel
theorem dX5_goForNext_32 : decode cX5_goForNext 32 = .ok (.aload_n 0, 1) := by decide +kernel
theorem dX5_goForNext_33 : decode cX5_goForNext 33 = .ok (.aload_n 1, 1) := by decide +kernel
theorem dX5_goForNext_34 : decode cX5_goForNext 34 = .ok (.iload_n 2, 1) := by decide +kernel
theorem dX5_goForNext_35 : decode cX5_goForNext 35 = .ok (.bipush 10, 2) := by decide +kernel
theorem dX5_goForNext_37 : decode cX5_goForNext 37 = .ok (.isub, 1) := by decide +kernel
theorem dX5_goForNext_38 : decode cX5_goForNext 38 = .ok (.invokevirtual 171, 3) := by decide +kernel
theorem dX5_goForNext_41 : decode cX5_goForNext 41 = .ok (.istore_n 3, 1) := by decide +kernel
theorem dX5_goForNext_42 : decode cX5_goForNext 42 = .ok (.iload_n 3, 1) := by decide +kernel
theorem dX5_goForNext_43 : decode cX5_goForNext 43 = .ok (.iconst 1, 1) := by decide +kernel
theorem dX5_goForNext_44 : decode cX5_goForNext 44 = .ok (.if_icmp .ne 13, 3) := by decide +kernel
theorem dX5_goForNext_47 : decode cX5_goForNext 47 = .ok (.aload_n 1, 1) := by decide +kernel
theorem dX5_goForNext_48 : decode cX5_goForNext 48 = .ok (.dup, 1) := by decide +kernel
theorem dX5_goForNext_49 : decode cX5_goForNext 49 = .ok (.getfield 118, 3) := by decide +kernel
theorem dX5_goForNext_52 : decode cX5_goForNext 52 = .ok (.iconst 1, 1) := by decide +kernel
theorem dX5_goForNext_53 : decode cX5_goForNext 53 = .ok (.iadd, 1) := by decide +kernel
theorem dX5_goForNext_54 : decode cX5_goForNext 54 = .ok (.putfield 118, 3) := by decide +kernel
theorem dX5_goForNext_57 : decode cX5_goForNext 57 = .ok (.iload_n 3, 1) := by decide +kernel
theorem dX5_goForNext_58 : decode cX5_goForNext 58 = .ok (.ireturn, 1) := by decide +kernel
set_option maxRecDepth 20000 in
theorem ggX5_goForCopy_X3_isFreeFor : GoodIn wsX5_goForCopy wsX3_isFreeFor := goodIn_r _ [6, 7, 8, 9, 10, 11, 12, 13, 14, 15, 16, 17, 18, 19, 20, 49, 50, 51, 52, 65, 66, 67] (by decide +kernel) (by decide +kernel)
set_option maxRecDepth 20000 in
theorem gX5_goForCopy_X3_isFreeFor : GoodIn wsX5_goForCopy (wsV RX5 174 RX3 yX3_isFreeFor wsX3_isFreeFor) := goodIn_app (goodIn_of _ (by decide +kernel)) ggX5_goForCopy_X3_isFreeFor
set_option maxRecDepth 20000 in
theorem ggX5_goForCopy_X3_take : GoodIn wsX5_goForCopy wsX3_take := goodIn_r _ [24, 7, 8, 25, 26, 27, 28, 29, 12, 30, 20, 14, 15, 31, 32, 33, 34, 16, 17, 18, 19, 49, 50, 51, 52, 65, 66, 67] (by decide +kernel) (by decide +kernel)
set_option maxRecDepth 20000 in
theorem gX5_goForCopy_X3_take : GoodIn wsX5_goForCopy (wsV RX5 177 RX3 yX3_take wsX3_take) := goodIn_app (goodIn_of _ (by decide +kernel)) ggX5_goForCopy_X3_take
set_option maxRecDepth 20000 in
theorem ggX5_goForCopy_X3_standInLine : GoodIn wsX5_goForCopy wsX3_standInLine := goodIn_r _ [38, 7, 39, 32, 33, 12, 34, 14, 15, 16, 17, 18, 19, 20, 40, 41, 42, 43, 49, 50, 51, 52, 65, 66, 67] (by decide +kernel) (by decide +kernel)
set_option maxRecDepth 20000 in
theorem gX5_goForCopy_X3_standInLine : GoodIn wsX5_goForCopy (wsV RX5 181 RX3 yX3_standInLine wsX3_standInLine) := goodIn_app (goodIn_of _ (by decide +kernel)) ggX5_goForCopy_X3_standInLine
theorem dX5_goForCopy_0 : decode cX5_goForCopy 0 = .ok (.aload_n 0, 1) := by decide +kernel
theorem dX5_goForCopy_1 : decode cX5_goForCopy 1 = .ok (.getfield 18, 3) := by decide +kernel
theorem dX5_goForCopy_4 : decode cX5_goForCopy 4 = .ok (.getfield 127, 3) := by decide +kernel
theorem dX5_goForCopy_7 : decode cX5_goForCopy 7 = .ok (.iload_n 2, 1) := by decide +kernel
theorem dX5_goForCopy_8 : decode cX5_goForCopy 8 = .ok (.iaload, 1) := by decide +kernel
theorem dX5_goForCopy_9 : decode cX5_goForCopy 9 = .ok (.aload_n 1, 1) := by decide +kernel
theorem dX5_goForCopy_10 : decode cX5_goForCopy 10 = .ok (.getfield 49, 3) := by decide +kernel
theorem dX5_goForCopy_13 : decode cX5_goForCopy 13 = .ok (.if_icmp .ne 5, 3) := by decide +kernel
theorem dX5_goForCopy_16 : decode cX5_goForCopy 16 = .ok (.iconst 1, 1) := by decide +kernel
theorem dX5_goForCopy_17 : decode cX5_goForCopy 17 = .ok (.ireturn, 1) := by decide +kernel
theorem dX5_goForCopy_18 : decode cX5_goForCopy 18 = .ok (.aload_n 0, 1) := by decide +kernel
theorem dX5_goForCopy_19 : decode cX5_goForCopy 19 = .ok (.getfield 18, 3) := by decide +kernel
theorem dX5_goForCopy_22 : decode cX5_goForCopy 22 = .ok (.iload_n 2, 1) := by decide +kernel
theorem dX5_goForCopy_23 : decode cX5_goForCopy 23 = .ok (.aload_n 1, 1) := by decide +kernel
theorem dX5_goForCopy_24 : decode cX5_goForCopy 24 = .ok (.getfield 49, 3) := by decide +kernel
theorem dX5_goForCopy_27 : decode cX5_goForCopy 27 = .ok (.invokevirtual 174, 3) := by decide +kernel
theorem dX5_goForCopy_30 : decode cX5_goForCopy 30 = .ok (.ifCond .eq 17, 3) := by decide +kernel
theorem dX5_goForCopy_33 : decode cX5_goForCopy 33 = .ok (.aload_n 0, 1) := by decide +kernel
theorem dX5_goForCopy_34 : decode cX5_goForCopy 34 = .ok (.getfield 18, 3) := by decide +kernel
theorem dX5_goForCopy_37 : decode cX5_goForCopy 37 = .ok (.iload_n 2, 1) := by decide +kernel
theorem dX5_goForCopy_38 : decode cX5_goForCopy 38 = .ok (.aload_n 1, 1) := by decide +kernel
theorem dX5_goForCopy_39 : decode cX5_goForCopy 39 = .ok (.getfield 49, 3) := by decide +kernel
theorem dX5_goForCopy_42 : decode cX5_goForCopy 42 = .ok (.invokevirtual 177, 3) := by decide +kernel
theorem dX5_goForCopy_45 : decode cX5_goForCopy 45 = .ok (.iconst 1, 1) := by decide +kernel
theorem dX5_goForCopy_46 : decode cX5_goForCopy 46 = .ok (.ireturn, 1) := by decide +kernel
theorem dX5_goForCopy_47 : decode cX5_goForCopy 47 = .ok (.aload_n 0, 1) := by decide +kernel
theorem dX5_goForCopy_48 : decode cX5_goForCopy 48 = .ok (.getfield 18, 3) := by decide +kernel
theorem dX5_goForCopy_51 : decode cX5_goForCopy 51 = .ok (.iload_n 2, 1) := by decide +kernel
theorem dX5_goForCopy_52 : decode cX5_goForCopy 52 = .ok (.aload_n 1, 1) := by decide +kernel
theorem dX5_goForCopy_53 : decode cX5_goForCopy 53 = .ok (.getfield 49, 3) := by decide +kernel
theorem dX5_goForCopy_56 : decode cX5_goForCopy 56 = .ok (.invokevirtual 181, 3) := by decide +kernel
theorem dX5_goForCopy_59 : decode cX5_goForCopy 59 = .ok (.iconst 3, 1) := by decide +kernel
theorem dX5_goForCopy_60 : decode cX5_goForCopy 60 = .ok (.ireturn, 1) := by decide +kernel
set_option maxRecDepth 20000 in
theorem ggX5_goForMessage_X1_way : GoodIn wsX5_goForMessage wsX1_way := goodIn_r _ [5] (by decide +kernel) (by decide +kernel)
set_option maxRecDepth 20000 in
theorem gX5_goForMessage_X1_way : GoodIn wsX5_goForMessage (va_wsS RX5 148 yX1_way wsX1_way) := goodIn_app (goodIn_of _ (by decide +kernel)) ggX5_goForMessage_X1_way
set_option maxRecDepth 20000 in
theorem ggX5_goForMessage_X1_take : GoodIn wsX5_goForMessage wsX1_take := goodIn_r _ [9, 10, 11, 12, 13, 4, 14, 15, 37, 38, 39] (by decide +kernel) (by decide +kernel)
set_option maxRecDepth 20000 in
theorem gX5_goForMessage_X1_take : GoodIn wsX5_goForMessage (wsV RX5 184 RX1 yX1_take wsX1_take) := goodIn_app (goodIn_of _ (by decide +kernel)) ggX5_goForMessage_X1_take
set_option maxRecDepth 20000 in
theorem ggX5_goForMessage_X1_findLost : GoodIn wsX5_goForMessage wsX1_findLost := goodIn_r _ [19, 15, 10, 11, 12, 13, 4, 14, 37, 38, 39] (by decide +kernel) (by decide +kernel)
set_option maxRecDepth 20000 in
theorem gX5_goForMessage_X1_findLost : GoodIn wsX5_goForMessage (wsV RX5 186 RX1 yX1_findLost wsX1_findLost) := goodIn_app (goodIn_of _ (by decide +kernel)) ggX5_goForMessage_X1_findLost
theorem dX5_goForMessage_0 : decode cX5_goForMessage 0 = .ok (.iload_n 2, 1) := by decide +kernel
theorem dX5_goForMessage_1 : decode cX5_goForMessage 1 = .ok (.aload_n 1, 1) := by decide +kernel
theorem dX5_goForMessage_2 : decode cX5_goForMessage 2 = .ok (.getfield 49, 3) := by decide +kernel
theorem dX5_goForMessage_5 : decode cX5_goForMessage 5 = .ok (.invokestatic 148, 3) := by decide +kernel
theorem dX5_goForMessage_8 : decode cX5_goForMessage 8 = .ok (.istore_n 3, 1) := by decide +kernel
theorem dX5_goForMessage_9 : decode cX5_goForMessage 9 = .ok (.aload_n 0, 1) := by decide +kernel
theorem dX5_goForMessage_10 : decode cX5_goForMessage 10 = .ok (.getfield 25, 3) := by decide +kernel
theorem dX5_goForMessage_13 : decode cX5_goForMessage 13 = .ok (.iload_n 3, 1) := by decide +kernel
theorem dX5_goForMessage_14 : decode cX5_goForMessage 14 = .ok (.invokevirtual 184, 3) := by decide +kernel
theorem dX5_goForMessage_17 : decode cX5_goForMessage 17 = .ok (.ifCond .eq 5, 3) := by decide +kernel
theorem dX5_goForMessage_20 : decode cX5_goForMessage 20 = .ok (.iconst 1, 1) := by decide +kernel
theorem dX5_goForMessage_21 : decode cX5_goForMessage 21 = .ok (.ireturn, 1) := by decide +kernel
theorem dX5_goForMessage_22 : decode cX5_goForMessage 22 = .ok (.aload_n 0, 1) := by decide +kernel
theorem dX5_goForMessage_23 : decode cX5_goForMessage 23 = .ok (.getfield 25, 3) := by decide +kernel
theorem dX5_goForMessage_26 : decode cX5_goForMessage 26 = .ok (.iload_n 3, 1) := by decide +kernel
theorem dX5_goForMessage_27 : decode cX5_goForMessage 27 = .ok (.invokevirtual 186, 3) := by decide +kernel
theorem dX5_goForMessage_30 : decode cX5_goForMessage 30 = .ok (.ifCond .eq 15, 3) := by decide +kernel
theorem dX5_goForMessage_33 : decode cX5_goForMessage 33 = .ok (.aload_n 1, 1) := by decide +kernel
theorem dX5_goForMessage_34 : decode cX5_goForMessage 34 = .ok (.dup, 1) := by decide +kernel
theorem dX5_goForMessage_35 : decode cX5_goForMessage 35 = .ok (.getfield 124, 3) := by decide +kernel
theorem dX5_goForMessage_38 : decode cX5_goForMessage 38 = .ok (.iconst 1, 1) := by decide +kernel
theorem dX5_goForMessage_39 : decode cX5_goForMessage 39 = .ok (.iadd, 1) := by decide +kernel
theorem dX5_goForMessage_40 : decode cX5_goForMessage 40 = .ok (.putfield 124, 3) := by decide +kernel
theorem dX5_goForMessage_43 : decode cX5_goForMessage 43 = .ok (.iconst 5, 1) := by decide +kernel
theorem dX5_goForMessage_44 : decode cX5_goForMessage 44 = .ok (.ireturn, 1) := by decide +kernel
theorem dX5_goForMessage_45 : decode cX5_goForMessage 45 = .ok (.iconst 4, 1) := by decide +kernel
theorem dX5_goForMessage_46 : decode cX5_goForMessage 46 = .ok (.ireturn, 1) := by decide +kernel
set_option maxRecDepth 20000 in
theorem ggX5_actOrFail_X5_undo : GoodIn wsX5_actOrFail wsX5_undo := goodIn_r _ [7, 1, 8, 9, 10, 11, 12, 13, 14, 15, 16, 17, 18, 19, 20, 21, 22, 23, 24, 25, 26, 27, 28, 29, 30, 31, 32, 33, 34, 35, 36, 88, 89, 90, 91, 92, 76, 77, 78, 79, 80, 81, 82, 83, 84, 85, 86, 87, 93, 94, 95, 96, 97, 98, 99] (by decide +kernel) (by decide +kernel)
set_option maxRecDepth 20000 in
theorem gX5_actOrFail_X5_undo : GoodIn wsX5_actOrFail (wsV RX5 99 RX5 yX5_undo wsX5_undo) := goodIn_app (goodIn_of _ (by decide +kernel)) ggX5_actOrFail_X5_undo
set_option maxRecDepth 20000 in
theorem ggX5_actOrFail_X3_change : GoodIn wsX5_actOrFail wsX3_change := goodIn_r _ [40, 13, 14, 93, 94, 95, 96] (by decide +kernel) (by decide +kernel)
set_option maxRecDepth 20000 in
theorem gX5_actOrFail_X3_change : GoodIn wsX5_actOrFail (wsV RX5 189 RX3 yX3_change wsX3_change) := goodIn_app (goodIn_of _ (by decide +kernel)) ggX5_actOrFail_X3_change
set_option maxRecDepth 20000 in
theorem ggX5_actOrFail_X0_write : GoodIn wsX5_actOrFail wsX0_write := goodIn_r _ [45, 46, 47, 48, 49, 24, 50, 26, 28, 27, 100, 97, 98, 99] (by decide +kernel) (by decide +kernel)
set_option maxRecDepth 20000 in
theorem gX5_actOrFail_X0_write : GoodIn wsX5_actOrFail (wsV RX5 192 RX0 yX0_write wsX0_write) := goodIn_app (goodIn_of _ (by decide +kernel)) ggX5_actOrFail_X0_write
set_option maxRecDepth 20000 in
theorem ggX5_actOrFail_X5_sendAll : GoodIn wsX5_actOrFail wsX5_sendAll := goodIn_r _ [54, 55, 56, 34, 35, 24, 36, 26, 57, 58, 59, 60, 27, 28, 33, 61, 62, 63, 64, 65, 66, 67, 68, 69, 70, 71, 72, 73, 74, 75, 76, 77, 78, 79, 80, 81, 82, 83, 84, 85, 86, 87, 88, 89, 90, 91, 92, 97, 98, 99, 101, 102, 103] (by decide +kernel) (by decide +kernel)
set_option maxRecDepth 20000 in
theorem gX5_actOrFail_X5_sendAll : GoodIn wsX5_actOrFail (wsV RX5 195 RX5 yX5_sendAll wsX5_sendAll) := goodIn_app (goodIn_of _ (by decide +kernel)) ggX5_actOrFail_X5_sendAll
set_option maxRecDepth 20000 in
theorem ggX5_actOrFail_X3_release : GoodIn wsX5_actOrFail wsX3_release := goodIn_r _ [19, 20, 13, 21, 22, 23, 24, 25, 26, 27, 28, 29, 30, 31, 32, 33, 34, 35, 36, 93, 94, 95, 96, 97, 98, 99] (by decide +kernel) (by decide +kernel)
set_option maxRecDepth 20000 in
theorem gX5_actOrFail_X3_release : GoodIn wsX5_actOrFail (wsV RX5 199 RX3 yX3_release wsX3_release) := goodIn_app (goodIn_of _ (by decide +kernel)) ggX5_actOrFail_X3_release
theorem dX5_actOrFail_0 : decode cX5_actOrFail 0 = .ok (.aload_n 1, 1) := by decide +kernel
theorem dX5_actOrFail_1 : decode cX5_actOrFail 1 = .ok (.getfield 115, 3) := by decide +kernel
theorem dX5_actOrFail_4 : decode cX5_actOrFail 4 = .ok (.aload_n 1, 1) := by decide +kernel
theorem dX5_actOrFail_5 : decode cX5_actOrFail 5 = .ok (.getfield 46, 3) := by decide +kernel
theorem dX5_actOrFail_8 : decode cX5_actOrFail 8 = .ok (.if_icmp .ne 12, 3) := by decide +kernel
theorem dX5_actOrFail_11 : decode cX5_actOrFail 11 = .ok (.aload_n 0, 1) := by decide +kernel
theorem dX5_actOrFail_12 : decode cX5_actOrFail 12 = .ok (.aload_n 1, 1) := by decide +kernel
theorem dX5_actOrFail_13 : decode cX5_actOrFail 13 = .ok (.iconst 2, 1) := by decide +kernel
theorem dX5_actOrFail_14 : decode cX5_actOrFail 14 = .ok (.invokevirtual 99, 3) := by decide +kernel
theorem dX5_actOrFail_17 : decode cX5_actOrFail 17 = .ok (.bipush 6, 2) := by decide +kernel
theorem dX5_actOrFail_19 : decode cX5_actOrFail 19 = .ok (.ireturn, 1) := by decide +kernel
theorem dX5_actOrFail_20 : decode cX5_actOrFail 20 = .ok (.aload_n 0, 1) := by decide +kernel
theorem dX5_actOrFail_21 : decode cX5_actOrFail 21 = .ok (.getfield 18, 3) := by decide +kernel
theorem dX5_actOrFail_24 : decode cX5_actOrFail 24 = .ok (.aload_n 1, 1) := by decide +kernel
