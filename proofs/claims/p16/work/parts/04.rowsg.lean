theorem dX6_line_37 : decode cX6_line 37 = .ok (.aload_n 0, 1) := by decide +kernel
theorem dX6_line_38 : decode cX6_line 38 = .ok (.iload_n 1, 1) := by decide +kernel
theorem dX6_line_39 : decode cX6_line 39 = .ok (.iload_n 3, 1) := by decide +kernel
theorem dX6_line_40 : decode cX6_line 40 = .ok (.invokevirtual 102, 3) := by decide +kernel
theorem dX6_line_43 : decode cX6_line 43 = .ok (.iload_n 2, 1) := by decide +kernel
theorem dX6_line_44 : decode cX6_line 44 = .ok (.if_icmp .ne 5, 3) := by decide +kernel
theorem dX6_line_47 : decode cX6_line 47 = .ok (.iload_n 3, 1) := by decide +kernel
theorem dX6_line_48 : decode cX6_line 48 = .ok (.ireturn, 1) := by decide +kernel
theorem dX6_line_49 : decode cX6_line 49 = .ok (.iinc 3 1, 3) := by decide +kernel
theorem dX6_line_52 : decode cX6_line 52 = .ok (.goto (-45), 3) := by decide +kernel
theorem dX6_line_55 : decode cX6_line 55 = .ok (.iconst (-1), 1) := by decide +kernel
theorem dX6_line_56 : decode cX6_line 56 = .ok (.ireturn, 1) := by decide +kernel
set_option maxRecDepth 20000 in
theorem ggX6_value_X6_in : GoodIn wsX6_value wsX6_in := goodIn_r _ [6] (by decide +kernel) (by decide +kernel)
set_option maxRecDepth 20000 in
theorem gX6_value_X6_in : GoodIn wsX6_value (va_wsS RX6 87 yX6_in wsX6_in) := goodIn_app (goodIn_of _ (by decide +kernel)) ggX6_value_X6_in
theorem dX6_value_0 : decode cX6_value 0 = .ok (.aload_n 0, 1) := by decide +kernel
theorem dX6_value_1 : decode cX6_value 1 = .ok (.iload_n 1, 1) := by decide +kernel
theorem dX6_value_2 : decode cX6_value 2 = .ok (.iconst 0, 1) := by decide +kernel
theorem dX6_value_3 : decode cX6_value 3 = .ok (.bipush 9, 2) := by decide +kernel
theorem dX6_value_5 : decode cX6_value 5 = .ok (.invokestatic 87, 3) := by decide +kernel
theorem dX6_value_8 : decode cX6_value 8 = .ok (.ifCond .eq 7, 3) := by decide +kernel
theorem dX6_value_11 : decode cX6_value 11 = .ok (.iconst 0, 1) := by decide +kernel
theorem dX6_value_12 : decode cX6_value 12 = .ok (.goto 4, 3) := by decide +kernel
theorem dX6_value_15 : decode cX6_value 15 = .ok (.iconst 1, 1) := by decide +kernel
theorem dX6_value_16 : decode cX6_value 16 = .ok (.putfield 80, 3) := by decide +kernel
theorem dX6_value_19 : decode cX6_value 19 = .ok (.aload_n 0, 1) := by decide +kernel
theorem dX6_value_20 : decode cX6_value 20 = .ok (.getfield 80, 3) := by decide +kernel
theorem dX6_value_23 : decode cX6_value 23 = .ok (.ifCond .le 7, 3) := by decide +kernel
theorem dX6_value_26 : decode cX6_value 26 = .ok (.iconst 0, 1) := by decide +kernel
theorem dX6_value_27 : decode cX6_value 27 = .ok (.goto 9, 3) := by decide +kernel
theorem dX6_value_30 : decode cX6_value 30 = .ok (.aload_n 0, 1) := by decide +kernel
theorem dX6_value_31 : decode cX6_value 31 = .ok (.getfield 59, 3) := by decide +kernel
theorem dX6_value_34 : decode cX6_value 34 = .ok (.iload_n 1, 1) := by decide +kernel
theorem dX6_value_35 : decode cX6_value 35 = .ok (.iaload, 1) := by decide +kernel
theorem dX6_value_36 : decode cX6_value 36 = .ok (.ireturn, 1) := by decide +kernel
set_option maxRecDepth 20000 in
theorem ggX6_log_X6_in : GoodIn wsX6_log wsX6_in := goodIn_r _ [7] (by decide +kernel) (by decide +kernel)
set_option maxRecDepth 20000 in
theorem gX6_log_X6_in : GoodIn wsX6_log (va_wsS RX6 87 yX6_in wsX6_in) := goodIn_app (goodIn_of _ (by decide +kernel)) ggX6_log_X6_in
theorem dX6_log_0 : decode cX6_log 0 = .ok (.aload_n 0, 1) := by decide +kernel
theorem dX6_log_1 : decode cX6_log 1 = .ok (.iconst 0, 1) := by decide +kernel
theorem dX6_log_2 : decode cX6_log 2 = .ok (.putfield 80, 3) := by decide +kernel
theorem dX6_log_5 : decode cX6_log 5 = .ok (.iload_n 1, 1) := by decide +kernel
theorem dX6_log_6 : decode cX6_log 6 = .ok (.iconst 0, 1) := by decide +kernel
theorem dX6_log_7 : decode cX6_log 7 = .ok (.aload_n 0, 1) := by decide +kernel
theorem dX6_log_8 : decode cX6_log 8 = .ok (.getfield 116, 3) := by decide +kernel
theorem dX6_log_11 : decode cX6_log 11 = .ok (.iconst 1, 1) := by decide +kernel
theorem dX6_log_12 : decode cX6_log 12 = .ok (.isub, 1) := by decide +kernel
theorem dX6_log_13 : decode cX6_log 13 = .ok (.invokestatic 87, 3) := by decide +kernel
theorem dX6_log_16 : decode cX6_log 16 = .ok (.ifCond .eq 12, 3) := by decide +kernel
theorem dX6_log_19 : decode cX6_log 19 = .ok (.aload_n 0, 1) := by decide +kernel
theorem dX6_log_20 : decode cX6_log 20 = .ok (.getfield 77, 3) := by decide +kernel
theorem dX6_log_23 : decode cX6_log 23 = .ok (.iload_n 1, 1) := by decide +kernel
theorem dX6_log_24 : decode cX6_log 24 = .ok (.iaload, 1) := by decide +kernel
theorem dX6_log_25 : decode cX6_log 25 = .ok (.goto 4, 3) := by decide +kernel
theorem dX6_log_28 : decode cX6_log 28 = .ok (.iconst (-1), 1) := by decide +kernel
theorem dX6_log_29 : decode cX6_log 29 = .ok (.ireturn, 1) := by decide +kernel
set_option maxRecDepth 20000 in
theorem ggX6_mail_X6_isWork : GoodIn wsX6_mail wsX6_isWork := goodIn_r _ [7, 8, 9, 10, 6, 11, 12, 13, 14, 15, 16, 17, 18, 19, 20, 21, 22, 23, 24, 25, 26, 27, 28, 29, 30, 31, 32, 33, 34, 35, 36, 37, 38, 39, 40] (by decide +kernel) (by decide +kernel)
set_option maxRecDepth 20000 in
theorem gX6_mail_X6_isWork : GoodIn wsX6_mail (wsV RX6 91 RX6 yX6_isWork wsX6_isWork) := goodIn_app (goodIn_of _ (by decide +kernel)) ggX6_mail_X6_isWork
theorem dX6_mail_0 : decode cX6_mail 0 = .ok (.aload_n 0, 1) := by decide +kernel
theorem dX6_mail_1 : decode cX6_mail 1 = .ok (.iconst 0, 1) := by decide +kernel
theorem dX6_mail_2 : decode cX6_mail 2 = .ok (.putfield 80, 3) := by decide +kernel
theorem dX6_mail_5 : decode cX6_mail 5 = .ok (.aload_n 0, 1) := by decide +kernel
theorem dX6_mail_6 : decode cX6_mail 6 = .ok (.iload_n 1, 1) := by decide +kernel
theorem dX6_mail_7 : decode cX6_mail 7 = .ok (.invokevirtual 91, 3) := by decide +kernel
theorem dX6_mail_10 : decode cX6_mail 10 = .ok (.ifCond .eq 25, 3) := by decide +kernel
theorem dX6_mail_13 : decode cX6_mail 13 = .ok (.aload_n 0, 1) := by decide +kernel
theorem dX6_mail_14 : decode cX6_mail 14 = .ok (.iload_n 2, 1) := by decide +kernel
theorem dX6_mail_15 : decode cX6_mail 15 = .ok (.invokevirtual 91, 3) := by decide +kernel
theorem dX6_mail_18 : decode cX6_mail 18 = .ok (.ifCond .eq 17, 3) := by decide +kernel
theorem dX6_mail_21 : decode cX6_mail 21 = .ok (.aload_n 0, 1) := by decide +kernel
theorem dX6_mail_22 : decode cX6_mail 22 = .ok (.getfield 62, 3) := by decide +kernel
theorem dX6_mail_25 : decode cX6_mail 25 = .ok (.bipush 12, 2) := by decide +kernel
theorem dX6_mail_27 : decode cX6_mail 27 = .ok (.iload_n 1, 1) := by decide +kernel
theorem dX6_mail_28 : decode cX6_mail 28 = .ok (.imul, 1) := by decide +kernel
theorem dX6_mail_29 : decode cX6_mail 29 = .ok (.iload_n 2, 1) := by decide +kernel
theorem dX6_mail_30 : decode cX6_mail 30 = .ok (.iadd, 1) := by decide +kernel
theorem dX6_mail_31 : decode cX6_mail 31 = .ok (.iaload, 1) := by decide +kernel
theorem dX6_mail_32 : decode cX6_mail 32 = .ok (.goto 5, 3) := by decide +kernel
theorem dX6_mail_35 : decode cX6_mail 35 = .ok (.bipush (-2), 2) := by decide +kernel
theorem dX6_mail_37 : decode cX6_mail 37 = .ok (.ireturn, 1) := by decide +kernel
theorem dJ9_max_7cf53_0 : decode cJ9_max_7cf53 0 = .ok (.iload_n 0, 1) := by decide +kernel
theorem dJ9_max_7cf53_1 : decode cJ9_max_7cf53 1 = .ok (.iload_n 1, 1) := by decide +kernel
theorem dJ9_max_7cf53_2 : decode cJ9_max_7cf53 2 = .ok (.if_icmp .lt 7, 3) := by decide +kernel
theorem dJ9_max_7cf53_5 : decode cJ9_max_7cf53 5 = .ok (.iload_n 0, 1) := by decide +kernel
theorem dJ9_max_7cf53_6 : decode cJ9_max_7cf53 6 = .ok (.goto 4, 3) := by decide +kernel
theorem dJ9_max_7cf53_9 : decode cJ9_max_7cf53 9 = .ok (.iload_n 1, 1) := by decide +kernel
theorem dJ9_max_7cf53_10 : decode cJ9_max_7cf53 10 = .ok (.ireturn, 1) := by decide +kernel
theorem dJ7_fill_53178_0 : decode cJ7_fill_53178 0 = .ok (.iconst 0, 1) := by decide +kernel
theorem dJ7_fill_53178_1 : decode cJ7_fill_53178 1 = .ok (.istore_n 2, 1) := by decide +kernel
theorem dJ7_fill_53178_2 : decode cJ7_fill_53178 2 = .ok (.aload_n 0, 1) := by decide +kernel
theorem dJ7_fill_53178_3 : decode cJ7_fill_53178 3 = .ok (.arraylength, 1) := by decide +kernel
theorem dJ7_fill_53178_4 : decode cJ7_fill_53178 4 = .ok (.istore_n 3, 1) := by decide +kernel
theorem dJ7_fill_53178_5 : decode cJ7_fill_53178 5 = .ok (.iload_n 2, 1) := by decide +kernel
theorem dJ7_fill_53178_6 : decode cJ7_fill_53178 6 = .ok (.iload_n 3, 1) := by decide +kernel
theorem dJ7_fill_53178_7 : decode cJ7_fill_53178 7 = .ok (.if_icmp .ge 13, 3) := by decide +kernel
theorem dJ7_fill_53178_10 : decode cJ7_fill_53178 10 = .ok (.aload_n 0, 1) := by decide +kernel
theorem dJ7_fill_53178_11 : decode cJ7_fill_53178 11 = .ok (.iload_n 2, 1) := by decide +kernel
theorem dJ7_fill_53178_12 : decode cJ7_fill_53178 12 = .ok (.iload_n 1, 1) := by decide +kernel
theorem dJ7_fill_53178_13 : decode cJ7_fill_53178 13 = .ok (.iastore, 1) := by decide +kernel
theorem dJ7_fill_53178_14 : decode cJ7_fill_53178 14 = .ok (.iinc 2 1, 3) := by decide +kernel
theorem dJ7_fill_53178_17 : decode cJ7_fill_53178 17 = .ok (.goto (-12), 3) := by decide +kernel
theorem dJ7_fill_53178_20 : decode cJ7_fill_53178 20 = .ok (.return_, 1) := by decide +kernel
set_option maxRecDepth 20000 in
theorem ggL_value_X5_value : GoodIn wsL_value wsX5_value := goodIn_ca (goodIn_r _ [6, 7, 8, 9, 10, 11, 5, 12, 13, 14, 15, 16, 17, 18, 19, 20, 21] (by decide +kernel) (by decide +kernel)) (goodIn_sub (fun _ h => List.mem_cons_of_mem _ (List.mem_append_right _ h)) (by decide +kernel))
set_option maxRecDepth 20000 in
theorem gL_value_X5_value : GoodIn wsL_value (wsV RL 7 RX5 yX5_value wsX5_value) := goodIn_app (goodIn_of _ (by decide +kernel)) ggL_value_X5_value
theorem dL_value_0 : decode cL_value 0 = .ok (.aload_n 2, 1) := by decide +kernel
theorem dL_value_1 : decode cL_value 1 = .ok (.iconst 0, 1) := by decide +kernel
theorem dL_value_2 : decode cL_value 2 = .ok (.aload_n 0, 1) := by decide +kernel
theorem dL_value_3 : decode cL_value 3 = .ok (.iload_n 1, 1) := by decide +kernel
theorem dL_value_4 : decode cL_value 4 = .ok (.invokevirtual 7, 3) := by decide +kernel
theorem dL_value_7 : decode cL_value 7 = .ok (.i2l, 1) := by decide +kernel
theorem dL_value_8 : decode cL_value 8 = .ok (.lastore, 1) := by decide +kernel
theorem dL_value_9 : decode cL_value 9 = .ok (.goto 6, 3) := by decide +kernel
theorem dL_value_12 : decode cL_value 12 = .ok (.astore_n 3, 1) := by decide +kernel
theorem dL_value_13 : decode cL_value 13 = .ok (.iconst 1, 1) := by decide +kernel
theorem dL_value_14 : decode cL_value 14 = .ok (.ireturn, 1) := by decide +kernel
theorem dL_value_15 : decode cL_value 15 = .ok (.iconst 0, 1) := by decide +kernel
theorem dL_value_16 : decode cL_value 16 = .ok (.ireturn, 1) := by decide +kernel
set_option maxRecDepth 20000 in
theorem ggL_law_X5_init : GoodIn wsL_law wsX5_init := goodIn_r _ [9, 10, 11, 12, 13, 14, 15, 16, 17, 18, 19, 20, 21, 22, 23, 24, 25, 26, 27, 28, 29, 30, 31, 32, 33, 34, 35, 36, 37, 38, 39, 40, 41, 42, 43, 44, 45, 46, 47, 48, 49, 50, 51, 52, 53, 54, 55, 56, 57, 58, 59, 60, 61, 62, 63, 64, 65, 66, 67, 68, 69, 70, 71, 72, 73, 74, 445, 446, 447, 448, 449, 479, 480, 481, 482, 483, 484, 485, 486, 487, 488, 489, 490, 491, 492, 493, 494, 495, 496, 497, 498, 499, 500, 501] (by decide +kernel) (by decide +kernel)
set_option maxRecDepth 20000 in
theorem gL_law_X5_init : GoodIn wsL_law (wsX5_init) := ggL_law_X5_init
set_option maxRecDepth 20000 in
theorem ggL_law_X6_init : GoodIn wsL_law wsX6_init := goodIn_r _ [77, 78, 11, 12, 33, 79, 80, 81, 82, 83, 84, 85, 86, 87, 88, 89, 90, 91, 92, 93, 94, 95, 96, 97, 98, 99, 100, 101, 102, 450, 451, 452, 453, 454, 455, 456, 457, 458, 459, 460, 461, 462, 463, 464, 465, 466, 467, 468, 469, 470, 471, 472, 473, 474, 475, 476, 477, 478] (by decide +kernel) (by decide +kernel)
set_option maxRecDepth 20000 in
theorem gL_law_X6_init : GoodIn wsL_law (wsX6_init) := ggL_law_X6_init
set_option maxRecDepth 20000 in
theorem ggL_law_X5_work : GoodIn wsL_law wsX5_work := goodIn_r _ [106, 107, 14, 445, 446, 447, 448, 449, 487, 488, 489, 490, 491, 492, 493, 494, 495, 496, 497, 498] (by decide +kernel) (by decide +kernel)
set_option maxRecDepth 20000 in
theorem gL_law_X5_work : GoodIn wsL_law (wsV RL 19 RX5 yX5_work wsX5_work) := goodIn_app (goodIn_of _ (by decide +kernel)) ggL_law_X5_work
set_option maxRecDepth 20000 in
theorem ggL_law_X6_work : GoodIn wsL_law wsX6_work := goodIn_r _ [111, 112, 113, 79, 80, 114, 115, 5, 116, 450, 451, 452, 453, 454, 455, 456, 457, 458, 459, 460, 461, 462, 463, 464, 465, 466, 467, 468, 469, 470, 471, 472, 473, 474, 475, 476, 477, 478] (by decide +kernel) (by decide +kernel)
set_option maxRecDepth 20000 in
theorem gL_law_X6_work : GoodIn wsL_law (wsV RL 23 RX6 yX6_work wsX6_work) := goodIn_app (goodIn_of _ (by decide +kernel)) ggL_law_X6_work
set_option maxRecDepth 20000 in
theorem ggL_law_X5_wants : GoodIn wsL_law wsX5_wants := goodIn_r _ [120, 121, 122, 123, 2, 124, 14, 125, 126, 127, 128, 107, 129, 130, 131, 28, 132, 133, 134, 135, 136, 137, 138, 139, 140, 141, 142, 143, 39, 144, 46, 45, 47, 487, 488, 489, 490, 491, 492, 493, 494, 495, 496, 497, 498, 445, 446, 447, 448, 449, 499, 500, 501] (by decide +kernel) (by decide +kernel)
set_option maxRecDepth 20000 in
theorem gL_law_X5_wants : GoodIn wsL_law (wsV RL 24 RX5 yX5_wants wsX5_wants) := goodIn_app (goodIn_of _ (by decide +kernel)) ggL_law_X5_wants
set_option maxRecDepth 20000 in
theorem ggL_law_X6_wants : GoodIn wsL_law wsX6_wants := goodIn_r _ [148, 112, 86, 91, 92, 149, 150, 151, 5, 152, 79, 153, 154, 155, 156, 113, 114, 115, 116, 450, 451, 452, 453, 454, 455, 456, 457, 458, 459, 460, 461, 462, 463, 464, 465, 466, 467, 468, 469, 470, 471, 472, 473, 474, 475, 476, 477, 478] (by decide +kernel) (by decide +kernel)
set_option maxRecDepth 20000 in
theorem gL_law_X6_wants : GoodIn wsL_law (wsV RL 28 RX6 yX6_wants wsX6_wants) := goodIn_app (goodIn_of _ (by decide +kernel)) ggL_law_X6_wants
set_option maxRecDepth 20000 in
theorem ggL_law_X5_sends : GoodIn wsL_law wsX5_sends := goodIn_r _ [160, 121, 122, 123, 2, 124, 14, 125, 126, 127, 128, 107, 129, 130, 131, 28, 132, 133, 134, 135, 136, 137, 141, 142, 143, 39, 144, 46, 45, 47, 487, 488, 489, 490, 491, 492, 493, 494, 495, 496, 497, 498, 445, 446, 447, 448, 449, 499, 500, 501] (by decide +kernel) (by decide +kernel)
set_option maxRecDepth 20000 in
theorem gL_law_X5_sends : GoodIn wsL_law (wsV RL 29 RX5 yX5_sends wsX5_sends) := goodIn_app (goodIn_of _ (by decide +kernel)) ggL_law_X5_sends
set_option maxRecDepth 20000 in
theorem ggL_law_X6_sends : GoodIn wsL_law wsX6_sends := goodIn_r _ [164, 112, 86, 93, 94, 149, 150, 151, 5, 152, 79, 153, 154, 155, 156, 113, 114, 115, 116, 450, 451, 452, 453, 454, 455, 456, 457, 458, 459, 460, 461, 462, 463, 464, 465, 466, 467, 468, 469, 470, 471, 472, 473, 474, 475, 476, 477, 478] (by decide +kernel) (by decide +kernel)
set_option maxRecDepth 20000 in
theorem gL_law_X6_sends : GoodIn wsL_law (wsV RL 33 RX6 yX6_sends wsX6_sends) := goodIn_app (goodIn_of _ (by decide +kernel)) ggL_law_X6_sends
set_option maxRecDepth 20000 in
theorem ggL_law_X5_loses : GoodIn wsL_law wsX5_loses := goodIn_r _ [168, 22, 445, 446, 447, 448, 449, 483, 484, 485] (by decide +kernel) (by decide +kernel)
set_option maxRecDepth 20000 in
theorem gL_law_X5_loses : GoodIn wsL_law (wsV RL 34 RX5 yX5_loses wsX5_loses) := goodIn_app (goodIn_of _ (by decide +kernel)) ggL_law_X5_loses
set_option maxRecDepth 20000 in
theorem ggL_law_X6_loses : GoodIn wsL_law wsX6_loses := goodIn_r _ [172, 112, 173, 114, 115, 5, 116, 450, 451, 452, 453, 454, 455, 456, 457, 458, 459, 460, 461, 462, 463, 464, 465, 466, 467, 468, 469, 470, 471, 472, 473, 474, 475, 476, 477, 478] (by decide +kernel) (by decide +kernel)
set_option maxRecDepth 20000 in
theorem gL_law_X6_loses : GoodIn wsL_law (wsV RL 37 RX6 yX6_loses wsX6_loses) := goodIn_app (goodIn_of _ (by decide +kernel)) ggL_law_X6_loses
set_option maxRecDepth 20000 in
theorem ggL_law_X5_turn : GoodIn wsL_law wsX5_turn := goodIn_r _ [177, 121, 122, 123, 2, 124, 14, 125, 126, 127, 128, 107, 178, 179, 180, 181, 182, 183, 184, 28, 185, 186, 68, 187, 188, 189, 190, 39, 191, 46, 192, 193, 194, 195, 18, 26, 196, 197, 198, 199, 200, 201, 202, 17, 203, 36, 34, 35, 204, 205, 206, 207, 40, 208, 209, 210, 211, 47, 45, 212, 213, 214, 215, 216, 217, 218, 219, 220, 221, 222, 223, 25, 224, 61, 225, 142, 143, 144, 226, 227, 228, 229, 22, 230, 231, 232, 233, 234, 235, 236, 21, 237, 238, 239, 240, 241, 242, 56, 55, 243, 244, 245, 246, 247, 248, 249, 250, 138, 139, 140, 251, 252, 253, 254, 255, 256, 257, 258, 259, 260, 261, 262, 263, 264, 265, 266, 267, 268, 269, 270, 271, 272, 273, 274, 275, 276, 277, 278, 279, 280, 281, 445, 446, 447, 448, 449, 487, 488, 489, 490, 491, 492, 493, 494, 495, 496, 497, 498, 499, 500, 501, 479, 480, 481, 482, 486, 483, 484, 485] (by decide +kernel) (by decide +kernel)
set_option maxRecDepth 20000 in
theorem gL_law_X5_turn : GoodIn wsL_law (wsV RL 38 RX5 yX5_turn wsX5_turn) := goodIn_app (goodIn_of _ (by decide +kernel)) ggL_law_X5_turn
set_option maxRecDepth 20000 in
theorem ggL_law_X6_turn : GoodIn wsL_law wsX6_turn := goodIn_r _ [285, 112, 286, 287, 288, 5, 289, 81, 86, 82, 83, 91, 92, 84, 80, 153, 154, 155, 156, 113, 114, 115, 116, 290, 291, 292, 293, 95, 89, 90, 294, 295, 296, 297, 298, 299, 300, 301, 302, 97, 98, 87, 303, 304, 305, 306, 307, 99, 96, 100, 101, 308, 309, 310, 311, 312, 313, 314, 315, 316, 102, 93, 94, 173, 79, 450, 451, 452, 453, 454, 455, 456, 457, 458, 459, 460, 461, 462, 463, 464, 465, 466, 467, 468, 469, 470, 471, 472, 473, 474, 475, 476, 477, 478] (by decide +kernel) (by decide +kernel)
set_option maxRecDepth 20000 in
theorem gL_law_X6_turn : GoodIn wsL_law (wsV RL 41 RX6 yX6_turn wsX6_turn) := goodIn_app (goodIn_of _ (by decide +kernel)) ggL_law_X6_turn
set_option maxRecDepth 20000 in
theorem ggL_law_X5_run : GoodIn wsL_law wsX5_run := goodIn_r _ [320, 321, 107, 14, 178, 179, 180, 2, 181, 182, 183, 184, 28, 185, 186, 68, 187, 188, 189, 190, 39, 191, 46, 192, 193, 194, 195, 18, 26, 196, 197, 198, 199, 200, 201, 202, 17, 203, 36, 34, 35, 204, 205, 206, 207, 40, 208, 209, 210, 211, 47, 45, 212, 213, 214, 215, 216, 217, 218, 219, 220, 221, 222, 223, 25, 224, 61, 225, 142, 143, 144, 226, 227, 228, 229, 22, 230, 231, 232, 233, 234, 235, 236, 21, 237, 238, 239, 240, 241, 242, 56, 55, 243, 244, 245, 246, 247, 248, 249, 250, 138, 139, 140, 251, 252, 253, 254, 255, 256, 257, 258, 259, 260, 261, 262, 263, 264, 265, 266, 267, 268, 269, 270, 271, 272, 273, 274, 275, 276, 277, 278, 279, 280, 281, 322, 323, 324, 445, 446, 447, 448, 449, 487, 488, 489, 490, 491, 492, 493, 494, 495, 496, 497, 498, 499, 500, 501, 479, 480, 481, 482, 486, 483, 484, 485] (by decide +kernel) (by decide +kernel)
set_option maxRecDepth 20000 in
theorem gL_law_X5_run : GoodIn wsL_law (wsV RL 42 RX5 yX5_run wsX5_run) := goodIn_app (goodIn_of _ (by decide +kernel)) ggL_law_X5_run
set_option maxRecDepth 20000 in
theorem ggL_law_X6_run : GoodIn wsL_law wsX6_run := goodIn_r _ [328, 112, 113, 286, 287, 288, 5, 289, 81, 86, 82, 83, 91, 92, 84, 80, 153, 154, 155, 156, 114, 115, 116, 290, 291, 292, 293, 95, 89, 90, 294, 295, 296, 297, 298, 299, 300, 301, 302, 97, 98, 87, 303, 304, 305, 306, 307, 99, 96, 100, 101, 308, 309, 310, 311, 312, 313, 314, 315, 316, 102, 93, 94, 173, 79, 450, 451, 452, 453, 454, 455, 456, 457, 458, 459, 460, 461, 462, 463, 464, 465, 466, 467, 468, 469, 470, 471, 472, 473, 474, 475, 476, 477, 478] (by decide +kernel) (by decide +kernel)
set_option maxRecDepth 20000 in
theorem gL_law_X6_run : GoodIn wsL_law (wsV RL 46 RX6 yX6_run wsX6_run) := goodIn_app (goodIn_of _ (by decide +kernel)) ggL_law_X6_run
set_option maxRecDepth 20000 in
theorem ggL_law_X5_ring : GoodIn wsL_law wsX5_ring := goodIn_r _ [332, 107, 14, 333, 334, 335, 2, 336, 18, 337, 338, 339, 340, 341, 342, 343, 17, 344, 40, 36, 268, 213, 214, 39, 215, 47, 45, 216, 189, 190, 191, 46, 196, 197, 198, 199, 200, 201, 202, 203, 34, 35, 204, 205, 206, 207, 208, 209, 210, 211, 212, 445, 446, 447, 448, 449, 479, 480, 481, 482, 499, 500, 501, 487, 488, 489, 490, 491, 492, 493, 494, 495, 496, 497, 498] (by decide +kernel) (by decide +kernel)
set_option maxRecDepth 20000 in
theorem gL_law_X5_ring : GoodIn wsL_law (wsV RL 47 RX5 yX5_ring wsX5_ring) := goodIn_app (goodIn_of _ (by decide +kernel)) ggL_law_X5_ring
set_option maxRecDepth 20000 in
theorem ggL_law_X6_ring : GoodIn wsL_law wsX6_ring := goodIn_r _ [348, 112, 113, 349, 350, 351, 5, 352, 89, 95, 303, 304, 305, 306, 307, 99, 96, 100, 101, 81, 308, 309, 310, 311, 450, 451, 452, 453, 454, 455, 456, 457, 458, 459, 460, 461, 462, 463, 464, 465, 466, 467, 468, 469, 470, 471, 472, 473, 474, 475, 476, 477, 478] (by decide +kernel) (by decide +kernel)
set_option maxRecDepth 20000 in
theorem gL_law_X6_ring : GoodIn wsL_law (wsV RL 50 RX6 yX6_ring wsX6_ring) := goodIn_app (goodIn_of _ (by decide +kernel)) ggL_law_X6_ring
set_option maxRecDepth 20000 in
theorem ggL_law_X5_interrupt : GoodIn wsL_law wsX5_interrupt := goodIn_r _ [356, 121, 122, 123, 2, 124, 14, 125, 126, 127, 128, 107, 322, 323, 324, 196, 197, 198, 199, 18, 200, 201, 202, 17, 203, 36, 34, 35, 204, 205, 206, 207, 40, 208, 209, 210, 39, 211, 46, 47, 45, 212, 213, 214, 215, 216, 189, 190, 191, 487, 488, 489, 490, 491, 492, 493, 494, 495, 496, 497, 498, 445, 446, 447, 448, 449, 479, 480, 481, 482, 499, 500, 501] (by decide +kernel) (by decide +kernel)
set_option maxRecDepth 20000 in
theorem gL_law_X5_interrupt : GoodIn wsL_law (wsV RL 51 RX5 yX5_interrupt wsX5_interrupt) := goodIn_app (goodIn_of _ (by decide +kernel)) ggL_law_X5_interrupt
set_option maxRecDepth 20000 in
theorem ggL_law_X6_interrupt : GoodIn wsL_law wsX6_interrupt := goodIn_r _ [360, 112, 81, 84, 153, 154, 155, 5, 156, 113, 114, 115, 116, 303, 304, 305, 306, 307, 99, 96, 100, 101, 308, 309, 310, 311, 95, 89, 450, 451, 452, 453, 454, 455, 456, 457, 458, 459, 460, 461, 462, 463, 464, 465, 466, 467, 468, 469, 470, 471, 472, 473, 474, 475, 476, 477, 478] (by decide +kernel) (by decide +kernel)
set_option maxRecDepth 20000 in
theorem gL_law_X6_interrupt : GoodIn wsL_law (wsV RL 54 RX6 yX6_interrupt wsX6_interrupt) := goodIn_app (goodIn_of _ (by decide +kernel)) ggL_law_X6_interrupt
set_option maxRecDepth 20000 in
theorem ggL_law_X5_again : GoodIn wsL_law wsX5_again := goodIn_r _ [364, 121, 122, 123, 2, 124, 14, 125, 126, 127, 128, 107, 365, 366, 367, 28, 368, 71, 187, 186, 70, 72, 369, 487, 488, 489, 490, 491, 492, 493, 494, 495, 496, 497, 498, 445, 446, 447, 448, 449] (by decide +kernel) (by decide +kernel)
set_option maxRecDepth 20000 in
theorem gL_law_X5_again : GoodIn wsL_law (wsV RL 55 RX5 yX5_again wsX5_again) := goodIn_app (goodIn_of _ (by decide +kernel)) ggL_law_X5_again
set_option maxRecDepth 20000 in
theorem ggL_law_X6_again : GoodIn wsL_law wsX6_again := goodIn_r _ [373, 112, 81, 82, 83, 84, 80, 88, 153, 154, 155, 5, 156, 113, 114, 115, 116, 450, 451, 452, 453, 454, 455, 456, 457, 458, 459, 460, 461, 462, 463, 464, 465, 466, 467, 468, 469, 470, 471, 472, 473, 474, 475, 476, 477, 478] (by decide +kernel) (by decide +kernel)
set_option maxRecDepth 20000 in
theorem gL_law_X6_again : GoodIn wsL_law (wsV RL 58 RX6 yX6_again wsX6_again) := goodIn_app (goodIn_of _ (by decide +kernel)) ggL_law_X6_again
set_option maxRecDepth 20000 in
theorem ggL_law_X5_close : GoodIn wsL_law wsX5_close := goodIn_r _ [377, 107, 14, 196, 197, 198, 2, 199, 18, 200, 201, 202, 17, 203, 36, 34, 35, 204, 205, 206, 207, 40, 208, 209, 210, 39, 211, 46, 47, 45, 212, 213, 214, 215, 216, 189, 190, 191, 445, 446, 447, 448, 449, 487, 488, 489, 490, 491, 492, 493, 494, 495, 496, 497, 498, 479, 480, 481, 482, 499, 500, 501] (by decide +kernel) (by decide +kernel)
set_option maxRecDepth 20000 in
theorem gL_law_X5_close : GoodIn wsL_law (wsV RL 59 RX5 yX5_close wsX5_close) := goodIn_app (goodIn_of _ (by decide +kernel)) ggL_law_X5_close
set_option maxRecDepth 20000 in
theorem ggL_law_X6_close : GoodIn wsL_law wsX6_close := goodIn_r _ [381, 112, 113, 81, 303, 304, 305, 5, 306, 307, 99, 96, 100, 101, 308, 309, 310, 311, 95, 89, 450, 451, 452, 453, 454, 455, 456, 457, 458, 459, 460, 461, 462, 463, 464, 465, 466, 467, 468, 469, 470, 471, 472, 473, 474, 475, 476, 477, 478] (by decide +kernel) (by decide +kernel)
set_option maxRecDepth 20000 in
theorem gL_law_X6_close : GoodIn wsL_law (wsV RL 62 RX6 yX6_close wsX6_close) := goodIn_app (goodIn_of _ (by decide +kernel)) ggL_law_X6_close
set_option maxRecDepth 20000 in
theorem ggL_law_X5_state : GoodIn wsL_law wsX5_state := goodIn_r _ [385, 18, 121, 122, 123, 2, 124, 14, 125, 126, 127, 128, 107, 386, 387, 388, 17, 389, 36, 487, 488, 489, 490, 491, 492, 493, 494, 495, 496, 497, 498, 445, 446, 447, 448, 449, 479, 480, 481, 482] (by decide +kernel) (by decide +kernel)
set_option maxRecDepth 20000 in
theorem gL_law_X5_state : GoodIn wsL_law (wsV RL 63 RX5 yX5_state wsX5_state) := goodIn_app (goodIn_of _ (by decide +kernel)) ggL_law_X5_state
set_option maxRecDepth 20000 in
theorem ggL_law_X6_state : GoodIn wsL_law wsX6_state := goodIn_r _ [393, 112, 81, 82, 83, 95, 87, 153, 154, 155, 5, 156, 113, 114, 115, 116, 450, 451, 452, 453, 454, 455, 456, 457, 458, 459, 460, 461, 462, 463, 464, 465, 466, 467, 468, 469, 470, 471, 472, 473, 474, 475, 476, 477, 478] (by decide +kernel) (by decide +kernel)
set_option maxRecDepth 20000 in
theorem gL_law_X6_state : GoodIn wsL_law (wsV RL 66 RX6 yX6_state wsX6_state) := goodIn_app (goodIn_of _ (by decide +kernel)) ggL_law_X6_state
set_option maxRecDepth 20000 in
theorem ggL_law_X5_has : GoodIn wsL_law wsX5_has := goodIn_r _ [397, 18, 138, 139, 2, 140, 445, 446, 447, 448, 449, 479, 480, 481, 482] (by decide +kernel) (by decide +kernel)
set_option maxRecDepth 20000 in
theorem gL_law_X5_has : GoodIn wsL_law (wsV RL 67 RX5 yX5_has wsX5_has) := goodIn_app (goodIn_of _ (by decide +kernel)) ggL_law_X5_has
set_option maxRecDepth 20000 in
theorem ggL_law_X6_has : GoodIn wsL_law wsX6_has := goodIn_r _ [401, 112, 95, 114, 115, 5, 116, 450, 451, 452, 453, 454, 455, 456, 457, 458, 459, 460, 461, 462, 463, 464, 465, 466, 467, 468, 469, 470, 471, 472, 473, 474, 475, 476, 477, 478] (by decide +kernel) (by decide +kernel)
set_option maxRecDepth 20000 in
theorem gL_law_X6_has : GoodIn wsL_law (wsV RL 70 RX6 yX6_has wsX6_has) := goodIn_app (goodIn_of _ (by decide +kernel)) ggL_law_X6_has
set_option maxRecDepth 20000 in
theorem ggL_law_X5_line : GoodIn wsL_law wsX5_line := goodIn_r _ [405, 18, 231, 232, 233, 39, 234, 47, 45, 216, 189, 190, 191, 46, 445, 446, 447, 448, 449, 479, 480, 481, 482, 499, 500, 501] (by decide +kernel) (by decide +kernel)
set_option maxRecDepth 20000 in
theorem gL_law_X5_line : GoodIn wsL_law (wsV RL 71 RX5 yX5_line wsX5_line) := goodIn_app (goodIn_of _ (by decide +kernel)) ggL_law_X5_line
set_option maxRecDepth 20000 in
theorem ggL_law_X6_line : GoodIn wsL_law wsX6_line := goodIn_r _ [409, 112, 113, 89, 114, 115, 5, 116, 295, 296, 297, 298, 90, 450, 451, 452, 453, 454, 455, 456, 457, 458, 459, 460, 461, 462, 463, 464, 465, 466, 467, 468, 469, 470, 471, 472, 473, 474, 475, 476, 477, 478] (by decide +kernel) (by decide +kernel)
set_option maxRecDepth 20000 in
theorem gL_law_X6_line : GoodIn wsL_law (wsV RL 74 RX6 yX6_line wsX6_line) := goodIn_app (goodIn_of _ (by decide +kernel)) ggL_law_X6_line
set_option maxRecDepth 20000 in
theorem ggL_law_L_value : GoodIn wsL_law wsL_value := goodIn_ca (goodIn_r _ [413, 414, 415, 416, 417, 2, 418, 419, 420, 18, 138, 139, 140, 445, 446, 447, 448, 449, 479, 480, 481, 482] (by decide +kernel) (by decide +kernel)) (goodIn_sub (fun _ h => List.mem_append_right _ h) (by decide +kernel))
set_option maxRecDepth 20000 in
theorem gL_law_L_value : GoodIn wsL_law (va_wsS RL 75 yL_value wsL_value) := goodIn_app (goodIn_of _ (by decide +kernel)) ggL_law_L_value
set_option maxRecDepth 20000 in
theorem ggL_law_X6_value : GoodIn wsL_law wsX6_value := goodIn_r _ [424, 112, 96, 114, 115, 5, 116, 450, 451, 452, 453, 454, 455, 456, 457, 458, 459, 460, 461, 462, 463, 464, 465, 466, 467, 468, 469, 470, 471, 472, 473, 474, 475, 476, 477, 478] (by decide +kernel) (by decide +kernel)
set_option maxRecDepth 20000 in
theorem gL_law_X6_value : GoodIn wsL_law (wsV RL 80 RX6 yX6_value wsX6_value) := goodIn_app (goodIn_of _ (by decide +kernel)) ggL_law_X6_value
set_option maxRecDepth 20000 in
theorem ggL_law_X5_log : GoodIn wsL_law wsX5_log := goodIn_r _ [428, 26, 231, 232, 233, 39, 234, 47, 45, 216, 189, 190, 191, 46, 445, 446, 447, 448, 449, 486, 499, 500, 501] (by decide +kernel) (by decide +kernel)
set_option maxRecDepth 20000 in
theorem gL_law_X5_log : GoodIn wsL_law (wsV RL 81 RX5 yX5_log wsX5_log) := goodIn_app (goodIn_of _ (by decide +kernel)) ggL_law_X5_log
set_option maxRecDepth 20000 in
theorem ggL_law_X6_log : GoodIn wsL_law wsX6_log := goodIn_r _ [432, 112, 316, 102, 114, 115, 5, 116, 450, 451, 452, 453, 454, 455, 456, 457, 458, 459, 460, 461, 462, 463, 464, 465, 466, 467, 468, 469, 470, 471, 472, 473, 474, 475, 476, 477, 478] (by decide +kernel) (by decide +kernel)
set_option maxRecDepth 20000 in
theorem gL_law_X6_log : GoodIn wsL_law (wsV RL 84 RX6 yX6_log wsX6_log) := goodIn_app (goodIn_of _ (by decide +kernel)) ggL_law_X6_log
set_option maxRecDepth 20000 in
theorem ggL_law_X5_mail : GoodIn wsL_law wsX5_mail := goodIn_r _ [436, 22, 121, 122, 123, 2, 124, 14, 125, 126, 127, 128, 107, 134, 135, 136, 137, 235, 236, 21, 237, 437, 438, 439, 440, 55, 243, 244, 245, 246, 56, 445, 446, 447, 448, 449, 483, 484, 485] (by decide +kernel) (by decide +kernel)
set_option maxRecDepth 20000 in
theorem gL_law_X5_mail : GoodIn wsL_law (wsV RL 85 RX5 yX5_mail wsX5_mail) := goodIn_app (goodIn_of _ (by decide +kernel)) ggL_law_X5_mail
set_option maxRecDepth 20000 in
theorem ggL_law_X6_mail : GoodIn wsL_law wsX6_mail := goodIn_r _ [444, 112, 97, 153, 154, 155, 5, 156, 113, 114, 115, 116, 450, 451, 452, 453, 454, 455, 456, 457, 458, 459, 460, 461, 462, 463, 464, 465, 466, 467, 468, 469, 470, 471, 472, 473, 474, 475, 476, 477, 478] (by decide +kernel) (by decide +kernel)
set_option maxRecDepth 20000 in
theorem gL_law_X6_mail : GoodIn wsL_law (wsV RL 88 RX6 yX6_mail wsX6_mail) := goodIn_app (goodIn_of _ (by decide +kernel)) ggL_law_X6_mail
theorem dL_law_0 : decode cL_law 0 = .ok (.new 8, 3) := by decide +kernel
theorem dL_law_3 : decode cL_law 3 = .ok (.dup, 1) := by decide +kernel
theorem dL_law_4 : decode cL_law 4 = .ok (.invokespecial 15, 3) := by decide +kernel
theorem dL_law_7 : decode cL_law 7 = .ok (.astore_n 1, 1) := by decide +kernel
theorem dL_law_8 : decode cL_law 8 = .ok (.new 16, 3) := by decide +kernel
theorem dL_law_11 : decode cL_law 11 = .ok (.dup, 1) := by decide +kernel
theorem dL_law_12 : decode cL_law 12 = .ok (.invokespecial 18, 3) := by decide +kernel
theorem dL_law_15 : decode cL_law 15 = .ok (.astore_n 2, 1) := by decide +kernel
theorem dL_law_16 : decode cL_law 16 = .ok (.iconst 1, 1) := by decide +kernel
theorem dL_law_17 : decode cL_law 17 = .ok (.newarray .long, 2) := by decide +kernel
theorem dL_law_19 : decode cL_law 19 = .ok (.astore_n 3, 1) := by decide +kernel
theorem dL_law_20 : decode cL_law 20 = .ok (.iconst 0, 1) := by decide +kernel
theorem dL_law_21 : decode cL_law 21 = .ok (.istore 4, 2) := by decide +kernel
theorem dL_law_23 : decode cL_law 23 = .ok (.iload 4, 2) := by decide +kernel
theorem dL_law_25 : decode cL_law 25 = .ok (.aload_n 0, 1) := by decide +kernel
theorem dL_law_26 : decode cL_law 26 = .ok (.arraylength, 1) := by decide +kernel
theorem dL_law_27 : decode cL_law 27 = .ok (.iconst 5, 1) := by decide +kernel
theorem dL_law_28 : decode cL_law 28 = .ok (.isub, 1) := by decide +kernel
theorem dL_law_29 : decode cL_law 29 = .ok (.if_icmp .gt 584, 3) := by decide +kernel
theorem dL_law_32 : decode cL_law 32 = .ok (.aload_n 0, 1) := by decide +kernel
theorem dL_law_33 : decode cL_law 33 = .ok (.iload 4, 2) := by decide +kernel
theorem dL_law_35 : decode cL_law 35 = .ok (.iaload, 1) := by decide +kernel
theorem dL_law_36 : decode cL_law 36 = .ok (.bipush 15, 2) := by decide +kernel
theorem dL_law_38 : decode cL_law 38 = .ok (.iand, 1) := by decide +kernel
theorem dL_law_39 : decode cL_law 39 = .ok (.tableswitch 568 0 15 #[77, 114, 191, 240, 265, 290, 303, 316, 341, 366, 379, 416, 441, 478, 506, 531], 77) := by decide +kernel
theorem dL_law_116 : decode cL_law 116 = .ok (.aload_n 1, 1) := by decide +kernel
theorem dL_law_117 : decode cL_law 117 = .ok (.aload_n 0, 1) := by decide +kernel
theorem dL_law_118 : decode cL_law 118 = .ok (.iload 4, 2) := by decide +kernel
theorem dL_law_120 : decode cL_law 120 = .ok (.iconst 1, 1) := by decide +kernel
theorem dL_law_121 : decode cL_law 121 = .ok (.iadd, 1) := by decide +kernel
theorem dL_law_122 : decode cL_law 122 = .ok (.iaload, 1) := by decide +kernel
theorem dL_law_123 : decode cL_law 123 = .ok (.aload_n 0, 1) := by decide +kernel
theorem dL_law_124 : decode cL_law 124 = .ok (.iload 4, 2) := by decide +kernel
theorem dL_law_126 : decode cL_law 126 = .ok (.iconst 2, 1) := by decide +kernel
theorem dL_law_127 : decode cL_law 127 = .ok (.iadd, 1) := by decide +kernel
theorem dL_law_128 : decode cL_law 128 = .ok (.iaload, 1) := by decide +kernel
theorem dL_law_129 : decode cL_law 129 = .ok (.invokevirtual 19, 3) := by decide +kernel
theorem dL_law_132 : decode cL_law 132 = .ok (.pop, 1) := by decide +kernel
theorem dL_law_133 : decode cL_law 133 = .ok (.aload_n 2, 1) := by decide +kernel
theorem dL_law_134 : decode cL_law 134 = .ok (.aload_n 0, 1) := by decide +kernel
theorem dL_law_135 : decode cL_law 135 = .ok (.iload 4, 2) := by decide +kernel
theorem dL_law_137 : decode cL_law 137 = .ok (.iconst 1, 1) := by decide +kernel
theorem dL_law_138 : decode cL_law 138 = .ok (.iadd, 1) := by decide +kernel
theorem dL_law_139 : decode cL_law 139 = .ok (.iaload, 1) := by decide +kernel
theorem dL_law_140 : decode cL_law 140 = .ok (.aload_n 0, 1) := by decide +kernel
theorem dL_law_141 : decode cL_law 141 = .ok (.iload 4, 2) := by decide +kernel
theorem dL_law_143 : decode cL_law 143 = .ok (.iconst 2, 1) := by decide +kernel
theorem dL_law_144 : decode cL_law 144 = .ok (.iadd, 1) := by decide +kernel
theorem dL_law_145 : decode cL_law 145 = .ok (.iaload, 1) := by decide +kernel
theorem dL_law_146 : decode cL_law 146 = .ok (.invokevirtual 23, 3) := by decide +kernel
theorem dL_law_149 : decode cL_law 149 = .ok (.pop, 1) := by decide +kernel
theorem dL_law_150 : decode cL_law 150 = .ok (.goto 457, 3) := by decide +kernel
theorem dL_law_153 : decode cL_law 153 = .ok (.aload_n 1, 1) := by decide +kernel
theorem dL_law_154 : decode cL_law 154 = .ok (.aload_n 0, 1) := by decide +kernel
theorem dL_law_155 : decode cL_law 155 = .ok (.iload 4, 2) := by decide +kernel
theorem dL_law_157 : decode cL_law 157 = .ok (.iconst 1, 1) := by decide +kernel
theorem dL_law_158 : decode cL_law 158 = .ok (.iadd, 1) := by decide +kernel
theorem dL_law_159 : decode cL_law 159 = .ok (.iaload, 1) := by decide +kernel
theorem dL_law_160 : decode cL_law 160 = .ok (.aload_n 0, 1) := by decide +kernel
theorem dL_law_161 : decode cL_law 161 = .ok (.iload 4, 2) := by decide +kernel
theorem dL_law_163 : decode cL_law 163 = .ok (.iconst 2, 1) := by decide +kernel
theorem dL_law_164 : decode cL_law 164 = .ok (.iadd, 1) := by decide +kernel
theorem dL_law_165 : decode cL_law 165 = .ok (.iaload, 1) := by decide +kernel
theorem dL_law_166 : decode cL_law 166 = .ok (.aload_n 0, 1) := by decide +kernel
theorem dL_law_167 : decode cL_law 167 = .ok (.iload 4, 2) := by decide +kernel
theorem dL_law_169 : decode cL_law 169 = .ok (.iconst 3, 1) := by decide +kernel
theorem dL_law_170 : decode cL_law 170 = .ok (.iadd, 1) := by decide +kernel
theorem dL_law_171 : decode cL_law 171 = .ok (.iaload, 1) := by decide +kernel
theorem dL_law_172 : decode cL_law 172 = .ok (.ifCond .eq 7, 3) := by decide +kernel
theorem dL_law_175 : decode cL_law 175 = .ok (.iconst 1, 1) := by decide +kernel
theorem dL_law_176 : decode cL_law 176 = .ok (.goto 4, 3) := by decide +kernel
theorem dL_law_179 : decode cL_law 179 = .ok (.iconst 0, 1) := by decide +kernel
theorem dL_law_180 : decode cL_law 180 = .ok (.aload_n 0, 1) := by decide +kernel
theorem dL_law_181 : decode cL_law 181 = .ok (.iload 4, 2) := by decide +kernel
theorem dL_law_183 : decode cL_law 183 = .ok (.iconst 4, 1) := by decide +kernel
theorem dL_law_184 : decode cL_law 184 = .ok (.iadd, 1) := by decide +kernel
theorem dL_law_185 : decode cL_law 185 = .ok (.iaload, 1) := by decide +kernel
theorem dL_law_186 : decode cL_law 186 = .ok (.invokevirtual 24, 3) := by decide +kernel
theorem dL_law_189 : decode cL_law 189 = .ok (.pop, 1) := by decide +kernel
theorem dL_law_190 : decode cL_law 190 = .ok (.aload_n 2, 1) := by decide +kernel
theorem dL_law_191 : decode cL_law 191 = .ok (.aload_n 0, 1) := by decide +kernel
theorem dL_law_192 : decode cL_law 192 = .ok (.iload 4, 2) := by decide +kernel
theorem dL_law_194 : decode cL_law 194 = .ok (.iconst 1, 1) := by decide +kernel
theorem dL_law_195 : decode cL_law 195 = .ok (.iadd, 1) := by decide +kernel
theorem dL_law_196 : decode cL_law 196 = .ok (.iaload, 1) := by decide +kernel
theorem dL_law_197 : decode cL_law 197 = .ok (.aload_n 0, 1) := by decide +kernel
theorem dL_law_198 : decode cL_law 198 = .ok (.iload 4, 2) := by decide +kernel
theorem dL_law_200 : decode cL_law 200 = .ok (.iconst 2, 1) := by decide +kernel
theorem dL_law_201 : decode cL_law 201 = .ok (.iadd, 1) := by decide +kernel
theorem dL_law_202 : decode cL_law 202 = .ok (.iaload, 1) := by decide +kernel
theorem dL_law_203 : decode cL_law 203 = .ok (.aload_n 0, 1) := by decide +kernel
theorem dL_law_204 : decode cL_law 204 = .ok (.iload 4, 2) := by decide +kernel
theorem dL_law_206 : decode cL_law 206 = .ok (.iconst 3, 1) := by decide +kernel
theorem dL_law_207 : decode cL_law 207 = .ok (.iadd, 1) := by decide +kernel
theorem dL_law_208 : decode cL_law 208 = .ok (.iaload, 1) := by decide +kernel
theorem dL_law_209 : decode cL_law 209 = .ok (.ifCond .eq 7, 3) := by decide +kernel
theorem dL_law_212 : decode cL_law 212 = .ok (.iconst 1, 1) := by decide +kernel
theorem dL_law_213 : decode cL_law 213 = .ok (.goto 4, 3) := by decide +kernel
theorem dL_law_216 : decode cL_law 216 = .ok (.iconst 0, 1) := by decide +kernel
theorem dL_law_217 : decode cL_law 217 = .ok (.aload_n 0, 1) := by decide +kernel
theorem dL_law_218 : decode cL_law 218 = .ok (.iload 4, 2) := by decide +kernel
theorem dL_law_220 : decode cL_law 220 = .ok (.iconst 4, 1) := by decide +kernel
theorem dL_law_221 : decode cL_law 221 = .ok (.iadd, 1) := by decide +kernel
theorem dL_law_222 : decode cL_law 222 = .ok (.iaload, 1) := by decide +kernel
theorem dL_law_223 : decode cL_law 223 = .ok (.invokevirtual 28, 3) := by decide +kernel
theorem dL_law_226 : decode cL_law 226 = .ok (.pop, 1) := by decide +kernel
theorem dL_law_227 : decode cL_law 227 = .ok (.goto 380, 3) := by decide +kernel
theorem dL_law_230 : decode cL_law 230 = .ok (.aload_n 1, 1) := by decide +kernel
theorem dL_law_231 : decode cL_law 231 = .ok (.aload_n 0, 1) := by decide +kernel
theorem dL_law_232 : decode cL_law 232 = .ok (.iload 4, 2) := by decide +kernel
theorem dL_law_234 : decode cL_law 234 = .ok (.iconst 1, 1) := by decide +kernel
theorem dL_law_235 : decode cL_law 235 = .ok (.iadd, 1) := by decide +kernel
theorem dL_law_236 : decode cL_law 236 = .ok (.iaload, 1) := by decide +kernel
theorem dL_law_237 : decode cL_law 237 = .ok (.aload_n 0, 1) := by decide +kernel
theorem dL_law_238 : decode cL_law 238 = .ok (.iload 4, 2) := by decide +kernel
theorem dL_law_240 : decode cL_law 240 = .ok (.iconst 2, 1) := by decide +kernel
theorem dL_law_241 : decode cL_law 241 = .ok (.iadd, 1) := by decide +kernel
theorem dL_law_242 : decode cL_law 242 = .ok (.iaload, 1) := by decide +kernel
theorem dL_law_243 : decode cL_law 243 = .ok (.aload_n 0, 1) := by decide +kernel
theorem dL_law_244 : decode cL_law 244 = .ok (.iload 4, 2) := by decide +kernel
theorem dL_law_246 : decode cL_law 246 = .ok (.iconst 3, 1) := by decide +kernel
theorem dL_law_247 : decode cL_law 247 = .ok (.iadd, 1) := by decide +kernel
theorem dL_law_248 : decode cL_law 248 = .ok (.iaload, 1) := by decide +kernel
theorem dL_law_249 : decode cL_law 249 = .ok (.invokevirtual 29, 3) := by decide +kernel
theorem dL_law_252 : decode cL_law 252 = .ok (.pop, 1) := by decide +kernel
theorem dL_law_253 : decode cL_law 253 = .ok (.aload_n 2, 1) := by decide +kernel
theorem dL_law_254 : decode cL_law 254 = .ok (.aload_n 0, 1) := by decide +kernel
theorem dL_law_255 : decode cL_law 255 = .ok (.iload 4, 2) := by decide +kernel
theorem dL_law_257 : decode cL_law 257 = .ok (.iconst 1, 1) := by decide +kernel
theorem dL_law_258 : decode cL_law 258 = .ok (.iadd, 1) := by decide +kernel
theorem dL_law_259 : decode cL_law 259 = .ok (.iaload, 1) := by decide +kernel
theorem dL_law_260 : decode cL_law 260 = .ok (.aload_n 0, 1) := by decide +kernel
theorem dL_law_261 : decode cL_law 261 = .ok (.iload 4, 2) := by decide +kernel
theorem dL_law_263 : decode cL_law 263 = .ok (.iconst 2, 1) := by decide +kernel
theorem dL_law_264 : decode cL_law 264 = .ok (.iadd, 1) := by decide +kernel
theorem dL_law_265 : decode cL_law 265 = .ok (.iaload, 1) := by decide +kernel
theorem dL_law_266 : decode cL_law 266 = .ok (.aload_n 0, 1) := by decide +kernel
theorem dL_law_267 : decode cL_law 267 = .ok (.iload 4, 2) := by decide +kernel
theorem dL_law_269 : decode cL_law 269 = .ok (.iconst 3, 1) := by decide +kernel
theorem dL_law_270 : decode cL_law 270 = .ok (.iadd, 1) := by decide +kernel
theorem dL_law_271 : decode cL_law 271 = .ok (.iaload, 1) := by decide +kernel
theorem dL_law_272 : decode cL_law 272 = .ok (.invokevirtual 33, 3) := by decide +kernel
theorem dL_law_275 : decode cL_law 275 = .ok (.pop, 1) := by decide +kernel
theorem dL_law_276 : decode cL_law 276 = .ok (.goto 331, 3) := by decide +kernel
theorem dL_law_279 : decode cL_law 279 = .ok (.aload_n 1, 1) := by decide +kernel
theorem dL_law_280 : decode cL_law 280 = .ok (.aload_n 0, 1) := by decide +kernel
theorem dL_law_281 : decode cL_law 281 = .ok (.iload 4, 2) := by decide +kernel
theorem dL_law_283 : decode cL_law 283 = .ok (.iconst 1, 1) := by decide +kernel
theorem dL_law_284 : decode cL_law 284 = .ok (.iadd, 1) := by decide +kernel
theorem dL_law_285 : decode cL_law 285 = .ok (.iaload, 1) := by decide +kernel
theorem dL_law_286 : decode cL_law 286 = .ok (.invokevirtual 34, 3) := by decide +kernel
theorem dL_law_289 : decode cL_law 289 = .ok (.pop, 1) := by decide +kernel
theorem dL_law_290 : decode cL_law 290 = .ok (.aload_n 2, 1) := by decide +kernel
theorem dL_law_291 : decode cL_law 291 = .ok (.aload_n 0, 1) := by decide +kernel
theorem dL_law_292 : decode cL_law 292 = .ok (.iload 4, 2) := by decide +kernel
theorem dL_law_294 : decode cL_law 294 = .ok (.iconst 1, 1) := by decide +kernel
theorem dL_law_295 : decode cL_law 295 = .ok (.iadd, 1) := by decide +kernel
theorem dL_law_296 : decode cL_law 296 = .ok (.iaload, 1) := by decide +kernel
theorem dL_law_297 : decode cL_law 297 = .ok (.invokevirtual 37, 3) := by decide +kernel
theorem dL_law_300 : decode cL_law 300 = .ok (.pop, 1) := by decide +kernel
theorem dL_law_301 : decode cL_law 301 = .ok (.goto 306, 3) := by decide +kernel
theorem dL_law_304 : decode cL_law 304 = .ok (.aload_n 1, 1) := by decide +kernel
theorem dL_law_305 : decode cL_law 305 = .ok (.aload_n 0, 1) := by decide +kernel
theorem dL_law_306 : decode cL_law 306 = .ok (.iload 4, 2) := by decide +kernel
theorem dL_law_308 : decode cL_law 308 = .ok (.iconst 1, 1) := by decide +kernel
theorem dL_law_309 : decode cL_law 309 = .ok (.iadd, 1) := by decide +kernel
theorem dL_law_310 : decode cL_law 310 = .ok (.iaload, 1) := by decide +kernel
theorem dL_law_311 : decode cL_law 311 = .ok (.invokevirtual 38, 3) := by decide +kernel
theorem dL_law_314 : decode cL_law 314 = .ok (.pop, 1) := by decide +kernel
theorem dL_law_315 : decode cL_law 315 = .ok (.aload_n 2, 1) := by decide +kernel
theorem dL_law_316 : decode cL_law 316 = .ok (.aload_n 0, 1) := by decide +kernel
theorem dL_law_317 : decode cL_law 317 = .ok (.iload 4, 2) := by decide +kernel
theorem dL_law_319 : decode cL_law 319 = .ok (.iconst 1, 1) := by decide +kernel
theorem dL_law_320 : decode cL_law 320 = .ok (.iadd, 1) := by decide +kernel
theorem dL_law_321 : decode cL_law 321 = .ok (.iaload, 1) := by decide +kernel
theorem dL_law_322 : decode cL_law 322 = .ok (.invokevirtual 41, 3) := by decide +kernel
theorem dL_law_325 : decode cL_law 325 = .ok (.pop, 1) := by decide +kernel
theorem dL_law_326 : decode cL_law 326 = .ok (.goto 281, 3) := by decide +kernel
theorem dL_law_329 : decode cL_law 329 = .ok (.aload_n 1, 1) := by decide +kernel
theorem dL_law_330 : decode cL_law 330 = .ok (.invokevirtual 42, 3) := by decide +kernel
theorem dL_law_333 : decode cL_law 333 = .ok (.pop, 1) := by decide +kernel
theorem dL_law_334 : decode cL_law 334 = .ok (.aload_n 2, 1) := by decide +kernel
theorem dL_law_335 : decode cL_law 335 = .ok (.invokevirtual 46, 3) := by decide +kernel
theorem dL_law_338 : decode cL_law 338 = .ok (.pop, 1) := by decide +kernel
theorem dL_law_339 : decode cL_law 339 = .ok (.goto 268, 3) := by decide +kernel
theorem dL_law_342 : decode cL_law 342 = .ok (.aload_n 1, 1) := by decide +kernel
theorem dL_law_343 : decode cL_law 343 = .ok (.invokevirtual 47, 3) := by decide +kernel
theorem dL_law_346 : decode cL_law 346 = .ok (.pop, 1) := by decide +kernel
theorem dL_law_347 : decode cL_law 347 = .ok (.aload_n 2, 1) := by decide +kernel
theorem dL_law_348 : decode cL_law 348 = .ok (.invokevirtual 50, 3) := by decide +kernel
theorem dL_law_351 : decode cL_law 351 = .ok (.pop, 1) := by decide +kernel
theorem dL_law_352 : decode cL_law 352 = .ok (.goto 255, 3) := by decide +kernel
theorem dL_law_355 : decode cL_law 355 = .ok (.aload_n 1, 1) := by decide +kernel
theorem dL_law_356 : decode cL_law 356 = .ok (.aload_n 0, 1) := by decide +kernel
theorem dL_law_357 : decode cL_law 357 = .ok (.iload 4, 2) := by decide +kernel
theorem dL_law_359 : decode cL_law 359 = .ok (.iconst 1, 1) := by decide +kernel
theorem dL_law_360 : decode cL_law 360 = .ok (.iadd, 1) := by decide +kernel
theorem dL_law_361 : decode cL_law 361 = .ok (.iaload, 1) := by decide +kernel
theorem dL_law_362 : decode cL_law 362 = .ok (.invokevirtual 51, 3) := by decide +kernel
theorem dL_law_365 : decode cL_law 365 = .ok (.pop, 1) := by decide +kernel
theorem dL_law_366 : decode cL_law 366 = .ok (.aload_n 2, 1) := by decide +kernel
theorem dL_law_367 : decode cL_law 367 = .ok (.aload_n 0, 1) := by decide +kernel
theorem dL_law_368 : decode cL_law 368 = .ok (.iload 4, 2) := by decide +kernel
theorem dL_law_370 : decode cL_law 370 = .ok (.iconst 1, 1) := by decide +kernel
theorem dL_law_371 : decode cL_law 371 = .ok (.iadd, 1) := by decide +kernel
theorem dL_law_372 : decode cL_law 372 = .ok (.iaload, 1) := by decide +kernel
theorem dL_law_373 : decode cL_law 373 = .ok (.invokevirtual 54, 3) := by decide +kernel
theorem dL_law_376 : decode cL_law 376 = .ok (.pop, 1) := by decide +kernel
theorem dL_law_377 : decode cL_law 377 = .ok (.goto 230, 3) := by decide +kernel
theorem dL_law_380 : decode cL_law 380 = .ok (.aload_n 1, 1) := by decide +kernel
theorem dL_law_381 : decode cL_law 381 = .ok (.aload_n 0, 1) := by decide +kernel
theorem dL_law_382 : decode cL_law 382 = .ok (.iload 4, 2) := by decide +kernel
theorem dL_law_384 : decode cL_law 384 = .ok (.iconst 1, 1) := by decide +kernel
theorem dL_law_385 : decode cL_law 385 = .ok (.iadd, 1) := by decide +kernel
theorem dL_law_386 : decode cL_law 386 = .ok (.iaload, 1) := by decide +kernel
theorem dL_law_387 : decode cL_law 387 = .ok (.invokevirtual 55, 3) := by decide +kernel
theorem dL_law_390 : decode cL_law 390 = .ok (.pop, 1) := by decide +kernel
theorem dL_law_391 : decode cL_law 391 = .ok (.aload_n 2, 1) := by decide +kernel
theorem dL_law_392 : decode cL_law 392 = .ok (.aload_n 0, 1) := by decide +kernel
theorem dL_law_393 : decode cL_law 393 = .ok (.iload 4, 2) := by decide +kernel
theorem dL_law_395 : decode cL_law 395 = .ok (.iconst 1, 1) := by decide +kernel
theorem dL_law_396 : decode cL_law 396 = .ok (.iadd, 1) := by decide +kernel
theorem dL_law_397 : decode cL_law 397 = .ok (.iaload, 1) := by decide +kernel
theorem dL_law_398 : decode cL_law 398 = .ok (.invokevirtual 58, 3) := by decide +kernel
theorem dL_law_401 : decode cL_law 401 = .ok (.pop, 1) := by decide +kernel
theorem dL_law_402 : decode cL_law 402 = .ok (.goto 205, 3) := by decide +kernel
theorem dL_law_405 : decode cL_law 405 = .ok (.aload_n 1, 1) := by decide +kernel
theorem dL_law_406 : decode cL_law 406 = .ok (.invokevirtual 59, 3) := by decide +kernel
theorem dL_law_409 : decode cL_law 409 = .ok (.pop, 1) := by decide +kernel
theorem dL_law_410 : decode cL_law 410 = .ok (.aload_n 2, 1) := by decide +kernel
theorem dL_law_411 : decode cL_law 411 = .ok (.invokevirtual 62, 3) := by decide +kernel
theorem dL_law_414 : decode cL_law 414 = .ok (.pop, 1) := by decide +kernel
theorem dL_law_415 : decode cL_law 415 = .ok (.goto 192, 3) := by decide +kernel
theorem dL_law_418 : decode cL_law 418 = .ok (.aload_n 1, 1) := by decide +kernel
theorem dL_law_419 : decode cL_law 419 = .ok (.aload_n 0, 1) := by decide +kernel
theorem dL_law_420 : decode cL_law 420 = .ok (.iload 4, 2) := by decide +kernel
theorem dL_law_422 : decode cL_law 422 = .ok (.iconst 1, 1) := by decide +kernel
theorem dL_law_423 : decode cL_law 423 = .ok (.iadd, 1) := by decide +kernel
theorem dL_law_424 : decode cL_law 424 = .ok (.iaload, 1) := by decide +kernel
theorem dL_law_425 : decode cL_law 425 = .ok (.aload_n 0, 1) := by decide +kernel
theorem dL_law_426 : decode cL_law 426 = .ok (.iload 4, 2) := by decide +kernel
