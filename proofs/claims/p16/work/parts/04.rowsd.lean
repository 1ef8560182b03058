theorem dX5_actOrFail_25 : decode cX5_actOrFail 25 = .ok (.getfield 49, 3) := by decide +kernel
theorem dX5_actOrFail_28 : decode cX5_actOrFail 28 = .ok (.aload_n 1, 1) := by decide +kernel
theorem dX5_actOrFail_29 : decode cX5_actOrFail 29 = .ok (.getfield 115, 3) := by decide +kernel
theorem dX5_actOrFail_32 : decode cX5_actOrFail 32 = .ok (.invokevirtual 189, 3) := by decide +kernel
theorem dX5_actOrFail_35 : decode cX5_actOrFail 35 = .ok (.aload_n 0, 1) := by decide +kernel
theorem dX5_actOrFail_36 : decode cX5_actOrFail 36 = .ok (.getfield 32, 3) := by decide +kernel
theorem dX5_actOrFail_39 : decode cX5_actOrFail 39 = .ok (.aload_n 1, 1) := by decide +kernel
theorem dX5_actOrFail_40 : decode cX5_actOrFail 40 = .ok (.getfield 49, 3) := by decide +kernel
theorem dX5_actOrFail_43 : decode cX5_actOrFail 43 = .ok (.aload_n 1, 1) := by decide +kernel
theorem dX5_actOrFail_44 : decode cX5_actOrFail 44 = .ok (.getfield 115, 3) := by decide +kernel
theorem dX5_actOrFail_47 : decode cX5_actOrFail 47 = .ok (.invokevirtual 192, 3) := by decide +kernel
theorem dX5_actOrFail_50 : decode cX5_actOrFail 50 = .ok (.aload_n 0, 1) := by decide +kernel
theorem dX5_actOrFail_51 : decode cX5_actOrFail 51 = .ok (.aload_n 1, 1) := by decide +kernel
theorem dX5_actOrFail_52 : decode cX5_actOrFail 52 = .ok (.invokevirtual 195, 3) := by decide +kernel
theorem dX5_actOrFail_55 : decode cX5_actOrFail 55 = .ok (.aload_n 1, 1) := by decide +kernel
theorem dX5_actOrFail_56 : decode cX5_actOrFail 56 = .ok (.dup, 1) := by decide +kernel
theorem dX5_actOrFail_57 : decode cX5_actOrFail 57 = .ok (.getfield 115, 3) := by decide +kernel
theorem dX5_actOrFail_60 : decode cX5_actOrFail 60 = .ok (.iconst 1, 1) := by decide +kernel
theorem dX5_actOrFail_61 : decode cX5_actOrFail 61 = .ok (.iadd, 1) := by decide +kernel
theorem dX5_actOrFail_62 : decode cX5_actOrFail 62 = .ok (.putfield 115, 3) := by decide +kernel
theorem dX5_actOrFail_65 : decode cX5_actOrFail 65 = .ok (.aload_n 1, 1) := by decide +kernel
theorem dX5_actOrFail_66 : decode cX5_actOrFail 66 = .ok (.iconst 0, 1) := by decide +kernel
theorem dX5_actOrFail_67 : decode cX5_actOrFail 67 = .ok (.putfield 118, 3) := by decide +kernel
theorem dX5_actOrFail_70 : decode cX5_actOrFail 70 = .ok (.aload_n 1, 1) := by decide +kernel
theorem dX5_actOrFail_71 : decode cX5_actOrFail 71 = .ok (.getfield 115, 3) := by decide +kernel
theorem dX5_actOrFail_74 : decode cX5_actOrFail 74 = .ok (.aload_n 1, 1) := by decide +kernel
theorem dX5_actOrFail_75 : decode cX5_actOrFail 75 = .ok (.getfield 43, 3) := by decide +kernel
theorem dX5_actOrFail_78 : decode cX5_actOrFail 78 = .ok (.if_icmp .lt 19, 3) := by decide +kernel
theorem dX5_actOrFail_81 : decode cX5_actOrFail 81 = .ok (.aload_n 1, 1) := by decide +kernel
theorem dX5_actOrFail_82 : decode cX5_actOrFail 82 = .ok (.iconst 1, 1) := by decide +kernel
theorem dX5_actOrFail_83 : decode cX5_actOrFail 83 = .ok (.putfield 103, 3) := by decide +kernel
theorem dX5_actOrFail_86 : decode cX5_actOrFail 86 = .ok (.aload_n 0, 1) := by decide +kernel
theorem dX5_actOrFail_87 : decode cX5_actOrFail 87 = .ok (.getfield 18, 3) := by decide +kernel
theorem dX5_actOrFail_90 : decode cX5_actOrFail 90 = .ok (.aload_n 1, 1) := by decide +kernel
theorem dX5_actOrFail_91 : decode cX5_actOrFail 91 = .ok (.getfield 49, 3) := by decide +kernel
theorem dX5_actOrFail_94 : decode cX5_actOrFail 94 = .ok (.invokevirtual 199, 3) := by decide +kernel
theorem dX5_actOrFail_97 : decode cX5_actOrFail 97 = .ok (.iconst 2, 1) := by decide +kernel
theorem dX5_actOrFail_98 : decode cX5_actOrFail 98 = .ok (.ireturn, 1) := by decide +kernel
set_option maxRecDepth 20000 in
theorem ggX5_sendAll_X2_count : GoodIn wsX5_sendAll wsX2_count := goodIn_r _ [6, 7, 47, 48, 49] (by decide +kernel) (by decide +kernel)
set_option maxRecDepth 20000 in
theorem gX5_sendAll_X2_count : GoodIn wsX5_sendAll (wsV RX5 202 RX2 yX2_count wsX2_count) := goodIn_app (goodIn_of _ (by decide +kernel)) ggX5_sendAll_X2_count
set_option maxRecDepth 20000 in
theorem ggX5_sendAll_X2_item : GoodIn wsX5_sendAll wsX2_item := goodIn_r _ [11, 12, 13, 14, 3, 4, 5, 6, 7, 47, 48, 49] (by decide +kernel) (by decide +kernel)
set_option maxRecDepth 20000 in
theorem gX5_sendAll_X2_item : GoodIn wsX5_sendAll (wsV RX5 134 RX2 yX2_item wsX2_item) := goodIn_app (goodIn_of _ (by decide +kernel)) ggX5_sendAll_X2_item
set_option maxRecDepth 20000 in
theorem ggX5_sendAll_X1_way : GoodIn wsX5_sendAll wsX1_way := goodIn_r _ [18] (by decide +kernel) (by decide +kernel)
set_option maxRecDepth 20000 in
theorem gX5_sendAll_X1_way : GoodIn wsX5_sendAll (va_wsS RX5 148 yX1_way wsX1_way) := goodIn_app (goodIn_of _ (by decide +kernel)) ggX5_sendAll_X1_way
set_option maxRecDepth 20000 in
theorem ggX5_sendAll_X1_send : GoodIn wsX5_sendAll wsX1_send := goodIn_r _ [22, 23, 24, 25, 26, 27, 28, 17, 29, 50, 51, 52] (by decide +kernel) (by decide +kernel)
set_option maxRecDepth 20000 in
theorem gX5_sendAll_X1_send : GoodIn wsX5_sendAll (wsV RX5 205 RX1 yX1_send wsX1_send) := goodIn_app (goodIn_of _ (by decide +kernel)) ggX5_sendAll_X1_send
theorem dX5_sendAll_0 : decode cX5_sendAll 0 = .ok (.aload_n 1, 1) := by decide +kernel
theorem dX5_sendAll_1 : decode cX5_sendAll 1 = .ok (.getfield 81, 3) := by decide +kernel
theorem dX5_sendAll_4 : decode cX5_sendAll 4 = .ok (.aload_n 1, 1) := by decide +kernel
theorem dX5_sendAll_5 : decode cX5_sendAll 5 = .ok (.getfield 115, 3) := by decide +kernel
theorem dX5_sendAll_8 : decode cX5_sendAll 8 = .ok (.invokevirtual 202, 3) := by decide +kernel
theorem dX5_sendAll_11 : decode cX5_sendAll 11 = .ok (.istore_n 2, 1) := by decide +kernel
theorem dX5_sendAll_12 : decode cX5_sendAll 12 = .ok (.iconst 0, 1) := by decide +kernel
theorem dX5_sendAll_13 : decode cX5_sendAll 13 = .ok (.istore_n 3, 1) := by decide +kernel
theorem dX5_sendAll_14 : decode cX5_sendAll 14 = .ok (.iload_n 3, 1) := by decide +kernel
theorem dX5_sendAll_15 : decode cX5_sendAll 15 = .ok (.iload_n 2, 1) := by decide +kernel
theorem dX5_sendAll_16 : decode cX5_sendAll 16 = .ok (.if_icmp .ge 35, 3) := by decide +kernel
theorem dX5_sendAll_19 : decode cX5_sendAll 19 = .ok (.aload_n 0, 1) := by decide +kernel
theorem dX5_sendAll_20 : decode cX5_sendAll 20 = .ok (.getfield 25, 3) := by decide +kernel
theorem dX5_sendAll_23 : decode cX5_sendAll 23 = .ok (.aload_n 1, 1) := by decide +kernel
theorem dX5_sendAll_24 : decode cX5_sendAll 24 = .ok (.getfield 49, 3) := by decide +kernel
theorem dX5_sendAll_27 : decode cX5_sendAll 27 = .ok (.aload_n 1, 1) := by decide +kernel
theorem dX5_sendAll_28 : decode cX5_sendAll 28 = .ok (.getfield 81, 3) := by decide +kernel
theorem dX5_sendAll_31 : decode cX5_sendAll 31 = .ok (.aload_n 1, 1) := by decide +kernel
theorem dX5_sendAll_32 : decode cX5_sendAll 32 = .ok (.getfield 115, 3) := by decide +kernel
theorem dX5_sendAll_35 : decode cX5_sendAll 35 = .ok (.iload_n 3, 1) := by decide +kernel
theorem dX5_sendAll_36 : decode cX5_sendAll 36 = .ok (.invokevirtual 134, 3) := by decide +kernel
theorem dX5_sendAll_39 : decode cX5_sendAll 39 = .ok (.invokestatic 148, 3) := by decide +kernel
theorem dX5_sendAll_42 : decode cX5_sendAll 42 = .ok (.invokevirtual 205, 3) := by decide +kernel
theorem dX5_sendAll_45 : decode cX5_sendAll 45 = .ok (.iinc 3 1, 3) := by decide +kernel
theorem dX5_sendAll_48 : decode cX5_sendAll 48 = .ok (.goto (-34), 3) := by decide +kernel
theorem dX5_sendAll_51 : decode cX5_sendAll 51 = .ok (.return_, 1) := by decide +kernel
set_option maxRecDepth 20000 in
theorem ggX5_undo_X3_restore : GoodIn wsX5_undo wsX3_restore := goodIn_r _ [6, 7, 8, 9, 48, 49, 50, 51] (by decide +kernel) (by decide +kernel)
set_option maxRecDepth 20000 in
theorem gX5_undo_X3_restore : GoodIn wsX5_undo (wsV RX5 208 RX3 yX3_restore wsX3_restore) := goodIn_app (goodIn_of _ (by decide +kernel)) ggX5_undo_X3_restore
set_option maxRecDepth 20000 in
theorem ggX5_undo_X3_release : GoodIn wsX5_undo wsX3_release := goodIn_r _ [13, 14, 7, 15, 16, 17, 18, 19, 20, 21, 22, 23, 24, 25, 26, 27, 28, 29, 30, 48, 49, 50, 51, 52, 53, 54] (by decide +kernel) (by decide +kernel)
set_option maxRecDepth 20000 in
theorem gX5_undo_X3_release : GoodIn wsX5_undo (wsV RX5 199 RX3 yX3_release wsX3_release) := goodIn_app (goodIn_of _ (by decide +kernel)) ggX5_undo_X3_release
theorem dX5_undo_0 : decode cX5_undo 0 = .ok (.aload_n 0, 1) := by decide +kernel
theorem dX5_undo_1 : decode cX5_undo 1 = .ok (.getfield 18, 3) := by decide +kernel
theorem dX5_undo_4 : decode cX5_undo 4 = .ok (.aload_n 1, 1) := by decide +kernel
theorem dX5_undo_5 : decode cX5_undo 5 = .ok (.getfield 49, 3) := by decide +kernel
theorem dX5_undo_8 : decode cX5_undo 8 = .ok (.invokevirtual 208, 3) := by decide +kernel
theorem dX5_undo_11 : decode cX5_undo 11 = .ok (.aload_n 0, 1) := by decide +kernel
theorem dX5_undo_12 : decode cX5_undo 12 = .ok (.getfield 18, 3) := by decide +kernel
theorem dX5_undo_15 : decode cX5_undo 15 = .ok (.aload_n 1, 1) := by decide +kernel
theorem dX5_undo_16 : decode cX5_undo 16 = .ok (.getfield 49, 3) := by decide +kernel
theorem dX5_undo_19 : decode cX5_undo 19 = .ok (.invokevirtual 199, 3) := by decide +kernel
theorem dX5_undo_22 : decode cX5_undo 22 = .ok (.aload_n 1, 1) := by decide +kernel
theorem dX5_undo_23 : decode cX5_undo 23 = .ok (.iload_n 2, 1) := by decide +kernel
theorem dX5_undo_24 : decode cX5_undo 24 = .ok (.putfield 103, 3) := by decide +kernel
theorem dX5_undo_27 : decode cX5_undo 27 = .ok (.return_, 1) := by decide +kernel
set_option maxRecDepth 20000 in
theorem ggX5_greatestInRingOf_X3_holderAwaitedBy : GoodIn wsX5_greatestInRingOf wsX3_holderAwaitedBy := goodIn_r _ [10, 11, 12, 13, 14, 15, 16, 17, 18, 19, 20, 21, 22, 23, 24, 30, 31, 32, 33, 34, 35, 36] (by decide +kernel) (by decide +kernel)
set_option maxRecDepth 20000 in
theorem gX5_greatestInRingOf_X3_holderAwaitedBy : GoodIn wsX5_greatestInRingOf (wsV RX5 211 RX3 yX3_holderAwaitedBy wsX3_holderAwaitedBy) := goodIn_app (goodIn_of _ (by decide +kernel)) ggX5_greatestInRingOf_X3_holderAwaitedBy
theorem dX5_greatestInRingOf_0 : decode cX5_greatestInRingOf 0 = .ok (.iload_n 1, 1) := by decide +kernel
theorem dX5_greatestInRingOf_1 : decode cX5_greatestInRingOf 1 = .ok (.istore_n 2, 1) := by decide +kernel
theorem dX5_greatestInRingOf_2 : decode cX5_greatestInRingOf 2 = .ok (.aload_n 0, 1) := by decide +kernel
theorem dX5_greatestInRingOf_3 : decode cX5_greatestInRingOf 3 = .ok (.getfield 18, 3) := by decide +kernel
theorem dX5_greatestInRingOf_6 : decode cX5_greatestInRingOf 6 = .ok (.iload_n 1, 1) := by decide +kernel
theorem dX5_greatestInRingOf_7 : decode cX5_greatestInRingOf 7 = .ok (.invokevirtual 211, 3) := by decide +kernel
theorem dX5_greatestInRingOf_10 : decode cX5_greatestInRingOf 10 = .ok (.istore_n 3, 1) := by decide +kernel
theorem dX5_greatestInRingOf_11 : decode cX5_greatestInRingOf 11 = .ok (.iconst 0, 1) := by decide +kernel
theorem dX5_greatestInRingOf_12 : decode cX5_greatestInRingOf 12 = .ok (.istore 4, 2) := by decide +kernel
theorem dX5_greatestInRingOf_14 : decode cX5_greatestInRingOf 14 = .ok (.iload 4, 2) := by decide +kernel
theorem dX5_greatestInRingOf_16 : decode cX5_greatestInRingOf 16 = .ok (.bipush 12, 2) := by decide +kernel
theorem dX5_greatestInRingOf_18 : decode cX5_greatestInRingOf 18 = .ok (.if_icmp .ge 34, 3) := by decide +kernel
theorem dX5_greatestInRingOf_21 : decode cX5_greatestInRingOf 21 = .ok (.iload_n 3, 1) := by decide +kernel
theorem dX5_greatestInRingOf_22 : decode cX5_greatestInRingOf 22 = .ok (.iconst (-1), 1) := by decide +kernel
theorem dX5_greatestInRingOf_23 : decode cX5_greatestInRingOf 23 = .ok (.if_icmp .eq 29, 3) := by decide +kernel
theorem dX5_greatestInRingOf_26 : decode cX5_greatestInRingOf 26 = .ok (.iload_n 3, 1) := by decide +kernel
theorem dX5_greatestInRingOf_27 : decode cX5_greatestInRingOf 27 = .ok (.iload_n 1, 1) := by decide +kernel
theorem dX5_greatestInRingOf_28 : decode cX5_greatestInRingOf 28 = .ok (.if_icmp .eq 24, 3) := by decide +kernel
theorem dX5_greatestInRingOf_31 : decode cX5_greatestInRingOf 31 = .ok (.iload_n 2, 1) := by decide +kernel
theorem dX5_greatestInRingOf_32 : decode cX5_greatestInRingOf 32 = .ok (.iload_n 3, 1) := by decide +kernel
theorem dX5_greatestInRingOf_33 : decode cX5_greatestInRingOf 33 = .ok (.invokestatic 214, 3) := by decide +kernel
theorem dX5_greatestInRingOf_36 : decode cX5_greatestInRingOf 36 = .ok (.istore_n 2, 1) := by decide +kernel
theorem dX5_greatestInRingOf_37 : decode cX5_greatestInRingOf 37 = .ok (.aload_n 0, 1) := by decide +kernel
theorem dX5_greatestInRingOf_38 : decode cX5_greatestInRingOf 38 = .ok (.getfield 18, 3) := by decide +kernel
theorem dX5_greatestInRingOf_41 : decode cX5_greatestInRingOf 41 = .ok (.iload_n 3, 1) := by decide +kernel
theorem dX5_greatestInRingOf_42 : decode cX5_greatestInRingOf 42 = .ok (.invokevirtual 211, 3) := by decide +kernel
theorem dX5_greatestInRingOf_45 : decode cX5_greatestInRingOf 45 = .ok (.istore_n 3, 1) := by decide +kernel
theorem dX5_greatestInRingOf_46 : decode cX5_greatestInRingOf 46 = .ok (.iinc 4 1, 3) := by decide +kernel
theorem dX5_greatestInRingOf_49 : decode cX5_greatestInRingOf 49 = .ok (.goto (-35), 3) := by decide +kernel
theorem dX5_greatestInRingOf_52 : decode cX5_greatestInRingOf 52 = .ok (.iload_n 3, 1) := by decide +kernel
theorem dX5_greatestInRingOf_53 : decode cX5_greatestInRingOf 53 = .ok (.iload_n 1, 1) := by decide +kernel
theorem dX5_greatestInRingOf_54 : decode cX5_greatestInRingOf 54 = .ok (.if_icmp .ne 7, 3) := by decide +kernel
theorem dX5_greatestInRingOf_57 : decode cX5_greatestInRingOf 57 = .ok (.iload_n 2, 1) := by decide +kernel
theorem dX5_greatestInRingOf_58 : decode cX5_greatestInRingOf 58 = .ok (.goto 4, 3) := by decide +kernel
theorem dX5_greatestInRingOf_61 : decode cX5_greatestInRingOf 61 = .ok (.iconst (-1), 1) := by decide +kernel
theorem dX5_greatestInRingOf_62 : decode cX5_greatestInRingOf 62 = .ok (.ireturn, 1) := by decide +kernel
theorem dX6_init_0 : decode cX6_init 0 = .ok (.aload_n 0, 1) := by decide +kernel
theorem dX6_init_1 : decode cX6_init 1 = .ok (.invokespecial 1, 3) := by decide +kernel
theorem dX6_init_4 : decode cX6_init 4 = .ok (.aload_n 0, 1) := by decide +kernel
theorem dX6_init_5 : decode cX6_init 5 = .ok (.bipush 12, 2) := by decide +kernel
theorem dX6_init_7 : decode cX6_init 7 = .ok (.newarray .int, 2) := by decide +kernel
theorem dX6_init_9 : decode cX6_init 9 = .ok (.putfield 7, 3) := by decide +kernel
theorem dX6_init_12 : decode cX6_init 12 = .ok (.aload_n 0, 1) := by decide +kernel
theorem dX6_init_13 : decode cX6_init 13 = .ok (.bipush 12, 2) := by decide +kernel
theorem dX6_init_15 : decode cX6_init 15 = .ok (.newarray .int, 2) := by decide +kernel
theorem dX6_init_17 : decode cX6_init 17 = .ok (.putfield 13, 3) := by decide +kernel
theorem dX6_init_20 : decode cX6_init 20 = .ok (.aload_n 0, 1) := by decide +kernel
theorem dX6_init_21 : decode cX6_init 21 = .ok (.bipush 12, 2) := by decide +kernel
theorem dX6_init_23 : decode cX6_init 23 = .ok (.newarray .int, 2) := by decide +kernel
theorem dX6_init_25 : decode cX6_init 25 = .ok (.putfield 16, 3) := by decide +kernel
theorem dX6_init_28 : decode cX6_init 28 = .ok (.aload_n 0, 1) := by decide +kernel
theorem dX6_init_29 : decode cX6_init 29 = .ok (.bipush 12, 2) := by decide +kernel
theorem dX6_init_31 : decode cX6_init 31 = .ok (.newarray .int, 2) := by decide +kernel
theorem dX6_init_33 : decode cX6_init 33 = .ok (.putfield 19, 3) := by decide +kernel
theorem dX6_init_36 : decode cX6_init 36 = .ok (.aload_n 0, 1) := by decide +kernel
theorem dX6_init_37 : decode cX6_init 37 = .ok (.bipush 12, 2) := by decide +kernel
theorem dX6_init_39 : decode cX6_init 39 = .ok (.newarray .int, 2) := by decide +kernel
theorem dX6_init_41 : decode cX6_init 41 = .ok (.putfield 22, 3) := by decide +kernel
theorem dX6_init_44 : decode cX6_init 44 = .ok (.aload_n 0, 1) := by decide +kernel
theorem dX6_init_45 : decode cX6_init 45 = .ok (.bipush 12, 2) := by decide +kernel
theorem dX6_init_47 : decode cX6_init 47 = .ok (.newarray .int, 2) := by decide +kernel
theorem dX6_init_49 : decode cX6_init 49 = .ok (.putfield 25, 3) := by decide +kernel
theorem dX6_init_52 : decode cX6_init 52 = .ok (.aload_n 0, 1) := by decide +kernel
theorem dX6_init_53 : decode cX6_init 53 = .ok (.bipush 12, 2) := by decide +kernel
theorem dX6_init_55 : decode cX6_init 55 = .ok (.newarray .boolean, 2) := by decide +kernel
theorem dX6_init_57 : decode cX6_init 57 = .ok (.putfield 28, 3) := by decide +kernel
theorem dX6_init_60 : decode cX6_init 60 = .ok (.aload_n 0, 1) := by decide +kernel
theorem dX6_init_61 : decode cX6_init 61 = .ok (.bipush 12, 2) := by decide +kernel
theorem dX6_init_63 : decode cX6_init 63 = .ok (.newarray .int, 2) := by decide +kernel
theorem dX6_init_65 : decode cX6_init 65 = .ok (.putfield 32, 3) := by decide +kernel
theorem dX6_init_68 : decode cX6_init 68 = .ok (.aload_n 0, 1) := by decide +kernel
theorem dX6_init_69 : decode cX6_init 69 = .ok (.bipush 12, 2) := by decide +kernel
theorem dX6_init_71 : decode cX6_init 71 = .ok (.newarray .int, 2) := by decide +kernel
theorem dX6_init_73 : decode cX6_init 73 = .ok (.putfield 35, 3) := by decide +kernel
theorem dX6_init_76 : decode cX6_init 76 = .ok (.aload_n 0, 1) := by decide +kernel
theorem dX6_init_77 : decode cX6_init 77 = .ok (.bipush 12, 2) := by decide +kernel
theorem dX6_init_79 : decode cX6_init 79 = .ok (.newarray .int, 2) := by decide +kernel
theorem dX6_init_81 : decode cX6_init 81 = .ok (.putfield 38, 3) := by decide +kernel
theorem dX6_init_84 : decode cX6_init 84 = .ok (.aload_n 0, 1) := by decide +kernel
theorem dX6_init_85 : decode cX6_init 85 = .ok (.bipush 12, 2) := by decide +kernel
theorem dX6_init_87 : decode cX6_init 87 = .ok (.newarray .int, 2) := by decide +kernel
theorem dX6_init_89 : decode cX6_init 89 = .ok (.putfield 41, 3) := by decide +kernel
theorem dX6_init_92 : decode cX6_init 92 = .ok (.aload_n 0, 1) := by decide +kernel
theorem dX6_init_93 : decode cX6_init 93 = .ok (.bipush 120, 2) := by decide +kernel
theorem dX6_init_95 : decode cX6_init 95 = .ok (.newarray .int, 2) := by decide +kernel
theorem dX6_init_97 : decode cX6_init 97 = .ok (.putfield 44, 3) := by decide +kernel
theorem dX6_init_100 : decode cX6_init 100 = .ok (.aload_n 0, 1) := by decide +kernel
theorem dX6_init_101 : decode cX6_init 101 = .ok (.sipush 480, 3) := by decide +kernel
theorem dX6_init_104 : decode cX6_init 104 = .ok (.newarray .int, 2) := by decide +kernel
theorem dX6_init_106 : decode cX6_init 106 = .ok (.putfield 47, 3) := by decide +kernel
theorem dX6_init_109 : decode cX6_init 109 = .ok (.aload_n 0, 1) := by decide +kernel
theorem dX6_init_110 : decode cX6_init 110 = .ok (.bipush 120, 2) := by decide +kernel
theorem dX6_init_112 : decode cX6_init 112 = .ok (.newarray .int, 2) := by decide +kernel
theorem dX6_init_114 : decode cX6_init 114 = .ok (.putfield 50, 3) := by decide +kernel
theorem dX6_init_117 : decode cX6_init 117 = .ok (.aload_n 0, 1) := by decide +kernel
theorem dX6_init_118 : decode cX6_init 118 = .ok (.sipush 240, 3) := by decide +kernel
theorem dX6_init_121 : decode cX6_init 121 = .ok (.newarray .int, 2) := by decide +kernel
theorem dX6_init_123 : decode cX6_init 123 = .ok (.putfield 53, 3) := by decide +kernel
theorem dX6_init_126 : decode cX6_init 126 = .ok (.aload_n 0, 1) := by decide +kernel
theorem dX6_init_127 : decode cX6_init 127 = .ok (.bipush 10, 2) := by decide +kernel
theorem dX6_init_129 : decode cX6_init 129 = .ok (.newarray .int, 2) := by decide +kernel
theorem dX6_init_131 : decode cX6_init 131 = .ok (.putfield 56, 3) := by decide +kernel
theorem dX6_init_134 : decode cX6_init 134 = .ok (.aload_n 0, 1) := by decide +kernel
theorem dX6_init_135 : decode cX6_init 135 = .ok (.bipush 10, 2) := by decide +kernel
theorem dX6_init_137 : decode cX6_init 137 = .ok (.newarray .int, 2) := by decide +kernel
theorem dX6_init_139 : decode cX6_init 139 = .ok (.putfield 59, 3) := by decide +kernel
theorem dX6_init_142 : decode cX6_init 142 = .ok (.aload_n 0, 1) := by decide +kernel
theorem dX6_init_143 : decode cX6_init 143 = .ok (.sipush 144, 3) := by decide +kernel
theorem dX6_init_146 : decode cX6_init 146 = .ok (.newarray .int, 2) := by decide +kernel
theorem dX6_init_148 : decode cX6_init 148 = .ok (.putfield 62, 3) := by decide +kernel
theorem dX6_init_151 : decode cX6_init 151 = .ok (.aload_n 0, 1) := by decide +kernel
theorem dX6_init_152 : decode cX6_init 152 = .ok (.sipush 144, 3) := by decide +kernel
theorem dX6_init_155 : decode cX6_init 155 = .ok (.newarray .int, 2) := by decide +kernel
theorem dX6_init_157 : decode cX6_init 157 = .ok (.putfield 65, 3) := by decide +kernel
theorem dX6_init_160 : decode cX6_init 160 = .ok (.aload_n 0, 1) := by decide +kernel
theorem dX6_init_161 : decode cX6_init 161 = .ok (.sipush 1200, 3) := by decide +kernel
theorem dX6_init_164 : decode cX6_init 164 = .ok (.newarray .int, 2) := by decide +kernel
theorem dX6_init_166 : decode cX6_init 166 = .ok (.putfield 68, 3) := by decide +kernel
theorem dX6_init_169 : decode cX6_init 169 = .ok (.aload_n 0, 1) := by decide +kernel
theorem dX6_init_170 : decode cX6_init 170 = .ok (.sipush 1200, 3) := by decide +kernel
theorem dX6_init_173 : decode cX6_init 173 = .ok (.newarray .int, 2) := by decide +kernel
theorem dX6_init_175 : decode cX6_init 175 = .ok (.putfield 71, 3) := by decide +kernel
theorem dX6_init_178 : decode cX6_init 178 = .ok (.aload_n 0, 1) := by decide +kernel
theorem dX6_init_179 : decode cX6_init 179 = .ok (.sipush 1200, 3) := by decide +kernel
theorem dX6_init_182 : decode cX6_init 182 = .ok (.newarray .int, 2) := by decide +kernel
theorem dX6_init_184 : decode cX6_init 184 = .ok (.putfield 74, 3) := by decide +kernel
theorem dX6_init_187 : decode cX6_init 187 = .ok (.aload_n 0, 1) := by decide +kernel
theorem dX6_init_188 : decode cX6_init 188 = .ok (.sipush 300, 3) := by decide +kernel
theorem dX6_init_191 : decode cX6_init 191 = .ok (.newarray .int, 2) := by decide +kernel
theorem dX6_init_193 : decode cX6_init 193 = .ok (.putfield 77, 3) := by decide +kernel
theorem dX6_init_196 : decode cX6_init 196 = .ok (.return_, 1) := by decide +kernel
theorem dX6_in_0 : decode cX6_in 0 = .ok (.iload_n 0, 1) := by decide +kernel
theorem dX6_in_1 : decode cX6_in 1 = .ok (.iload_n 1, 1) := by decide +kernel
theorem dX6_in_2 : decode cX6_in 2 = .ok (.if_icmp .lt 12, 3) := by decide +kernel
theorem dX6_in_5 : decode cX6_in 5 = .ok (.iload_n 0, 1) := by decide +kernel
theorem dX6_in_6 : decode cX6_in 6 = .ok (.iload_n 2, 1) := by decide +kernel
theorem dX6_in_7 : decode cX6_in 7 = .ok (.if_icmp .gt 7, 3) := by decide +kernel
theorem dX6_in_10 : decode cX6_in 10 = .ok (.iconst 1, 1) := by decide +kernel
theorem dX6_in_11 : decode cX6_in 11 = .ok (.goto 4, 3) := by decide +kernel
theorem dX6_in_14 : decode cX6_in 14 = .ok (.iconst 0, 1) := by decide +kernel
theorem dX6_in_15 : decode cX6_in 15 = .ok (.ireturn, 1) := by decide +kernel
set_option maxRecDepth 20000 in
theorem ggX6_isWork_X6_in : GoodIn wsX6_isWork wsX6_in := goodIn_r _ [5] (by decide +kernel) (by decide +kernel)
set_option maxRecDepth 20000 in
theorem gX6_isWork_X6_in : GoodIn wsX6_isWork (va_wsS RX6 87 yX6_in wsX6_in) := goodIn_app (goodIn_of _ (by decide +kernel)) ggX6_isWork_X6_in
theorem dX6_isWork_0 : decode cX6_isWork 0 = .ok (.iload_n 1, 1) := by decide +kernel
theorem dX6_isWork_1 : decode cX6_isWork 1 = .ok (.iconst 0, 1) := by decide +kernel
theorem dX6_isWork_2 : decode cX6_isWork 2 = .ok (.aload_n 0, 1) := by decide +kernel
theorem dX6_isWork_3 : decode cX6_isWork 3 = .ok (.getfield 84, 3) := by decide +kernel
theorem dX6_isWork_6 : decode cX6_isWork 6 = .ok (.iconst 1, 1) := by decide +kernel
theorem dX6_isWork_7 : decode cX6_isWork 7 = .ok (.isub, 1) := by decide +kernel
theorem dX6_isWork_8 : decode cX6_isWork 8 = .ok (.invokestatic 87, 3) := by decide +kernel
theorem dX6_isWork_11 : decode cX6_isWork 11 = .ok (.ireturn, 1) := by decide +kernel
set_option maxRecDepth 20000 in
theorem ggX6_work_X6_in : GoodIn wsX6_work wsX6_in := goodIn_r _ [8] (by decide +kernel) (by decide +kernel)
set_option maxRecDepth 20000 in
theorem gX6_work_X6_in : GoodIn wsX6_work (va_wsS RX6 87 yX6_in wsX6_in) := goodIn_app (goodIn_of _ (by decide +kernel)) ggX6_work_X6_in
theorem dX6_work_0 : decode cX6_work 0 = .ok (.aload_n 0, 1) := by decide +kernel
theorem dX6_work_1 : decode cX6_work 1 = .ok (.iconst 0, 1) := by decide +kernel
theorem dX6_work_2 : decode cX6_work 2 = .ok (.putfield 80, 3) := by decide +kernel
theorem dX6_work_5 : decode cX6_work 5 = .ok (.iload_n 1, 1) := by decide +kernel
theorem dX6_work_6 : decode cX6_work 6 = .ok (.iconst 1, 1) := by decide +kernel
theorem dX6_work_7 : decode cX6_work 7 = .ok (.bipush 10, 2) := by decide +kernel
theorem dX6_work_9 : decode cX6_work 9 = .ok (.invokestatic 87, 3) := by decide +kernel
theorem dX6_work_12 : decode cX6_work 12 = .ok (.ifCond .eq 14, 3) := by decide +kernel
theorem dX6_work_15 : decode cX6_work 15 = .ok (.iload_n 2, 1) := by decide +kernel
theorem dX6_work_16 : decode cX6_work 16 = .ok (.iconst (-1), 1) := by decide +kernel
theorem dX6_work_17 : decode cX6_work 17 = .ok (.iload_n 1, 1) := by decide +kernel
theorem dX6_work_18 : decode cX6_work 18 = .ok (.iconst 1, 1) := by decide +kernel
theorem dX6_work_19 : decode cX6_work 19 = .ok (.isub, 1) := by decide +kernel
theorem dX6_work_20 : decode cX6_work 20 = .ok (.invokestatic 87, 3) := by decide +kernel
theorem dX6_work_23 : decode cX6_work 23 = .ok (.ifCond .ne 6, 3) := by decide +kernel
theorem dX6_work_26 : decode cX6_work 26 = .ok (.bipush (-2), 2) := by decide +kernel
theorem dX6_work_28 : decode cX6_work 28 = .ok (.ireturn, 1) := by decide +kernel
theorem dX6_work_29 : decode cX6_work 29 = .ok (.aload_n 0, 1) := by decide +kernel
theorem dX6_work_30 : decode cX6_work 30 = .ok (.getfield 84, 3) := by decide +kernel
theorem dX6_work_33 : decode cX6_work 33 = .ok (.bipush 12, 2) := by decide +kernel
theorem dX6_work_35 : decode cX6_work 35 = .ok (.if_icmp .ne 6, 3) := by decide +kernel
theorem dX6_work_38 : decode cX6_work 38 = .ok (.bipush (-4), 2) := by decide +kernel
theorem dX6_work_40 : decode cX6_work 40 = .ok (.ireturn, 1) := by decide +kernel
theorem dX6_work_41 : decode cX6_work 41 = .ok (.aload_n 0, 1) := by decide +kernel
theorem dX6_work_42 : decode cX6_work 42 = .ok (.getfield 7, 3) := by decide +kernel
theorem dX6_work_45 : decode cX6_work 45 = .ok (.aload_n 0, 1) := by decide +kernel
theorem dX6_work_46 : decode cX6_work 46 = .ok (.getfield 84, 3) := by decide +kernel
theorem dX6_work_49 : decode cX6_work 49 = .ok (.iload_n 1, 1) := by decide +kernel
theorem dX6_work_50 : decode cX6_work 50 = .ok (.iastore, 1) := by decide +kernel
theorem dX6_work_51 : decode cX6_work 51 = .ok (.aload_n 0, 1) := by decide +kernel
theorem dX6_work_52 : decode cX6_work 52 = .ok (.getfield 13, 3) := by decide +kernel
theorem dX6_work_55 : decode cX6_work 55 = .ok (.aload_n 0, 1) := by decide +kernel
theorem dX6_work_56 : decode cX6_work 56 = .ok (.getfield 84, 3) := by decide +kernel
theorem dX6_work_59 : decode cX6_work 59 = .ok (.iload_n 2, 1) := by decide +kernel
theorem dX6_work_60 : decode cX6_work 60 = .ok (.iastore, 1) := by decide +kernel
theorem dX6_work_61 : decode cX6_work 61 = .ok (.aload_n 0, 1) := by decide +kernel
theorem dX6_work_62 : decode cX6_work 62 = .ok (.dup, 1) := by decide +kernel
theorem dX6_work_63 : decode cX6_work 63 = .ok (.getfield 84, 3) := by decide +kernel
theorem dX6_work_66 : decode cX6_work 66 = .ok (.iconst 1, 1) := by decide +kernel
theorem dX6_work_67 : decode cX6_work 67 = .ok (.iadd, 1) := by decide +kernel
theorem dX6_work_68 : decode cX6_work 68 = .ok (.putfield 84, 3) := by decide +kernel
theorem dX6_work_71 : decode cX6_work 71 = .ok (.aload_n 0, 1) := by decide +kernel
theorem dX6_work_72 : decode cX6_work 72 = .ok (.getfield 84, 3) := by decide +kernel
theorem dX6_work_75 : decode cX6_work 75 = .ok (.iconst 1, 1) := by decide +kernel
theorem dX6_work_76 : decode cX6_work 76 = .ok (.isub, 1) := by decide +kernel
theorem dX6_work_77 : decode cX6_work 77 = .ok (.ireturn, 1) := by decide +kernel
set_option maxRecDepth 20000 in
theorem ggX6_isStep_X6_isWork : GoodIn wsX6_isStep wsX6_isWork := goodIn_r _ [6, 7, 8, 9, 5, 10, 11, 12, 13, 14, 15, 16, 17, 18, 19, 20, 21, 22, 23, 24, 25, 26, 27, 28, 29, 30, 31, 32, 33, 34, 35, 36, 37, 38, 39] (by decide +kernel) (by decide +kernel)
set_option maxRecDepth 20000 in
theorem gX6_isStep_X6_isWork : GoodIn wsX6_isStep (wsV RX6 91 RX6 yX6_isWork wsX6_isWork) := goodIn_app (goodIn_of _ (by decide +kernel)) ggX6_isStep_X6_isWork
set_option maxRecDepth 20000 in
theorem ggX6_isStep_X6_in : GoodIn wsX6_isStep wsX6_in := goodIn_r _ [10] (by decide +kernel) (by decide +kernel)
set_option maxRecDepth 20000 in
theorem gX6_isStep_X6_in : GoodIn wsX6_isStep (va_wsS RX6 87 yX6_in wsX6_in) := goodIn_app (goodIn_of _ (by decide +kernel)) ggX6_isStep_X6_in
theorem dX6_isStep_0 : decode cX6_isStep 0 = .ok (.aload_n 0, 1) := by decide +kernel
theorem dX6_isStep_1 : decode cX6_isStep 1 = .ok (.iload_n 1, 1) := by decide +kernel
theorem dX6_isStep_2 : decode cX6_isStep 2 = .ok (.invokevirtual 91, 3) := by decide +kernel
theorem dX6_isStep_5 : decode cX6_isStep 5 = .ok (.ifCond .eq 23, 3) := by decide +kernel
theorem dX6_isStep_8 : decode cX6_isStep 8 = .ok (.iload_n 2, 1) := by decide +kernel
theorem dX6_isStep_9 : decode cX6_isStep 9 = .ok (.iconst 0, 1) := by decide +kernel
theorem dX6_isStep_10 : decode cX6_isStep 10 = .ok (.aload_n 0, 1) := by decide +kernel
theorem dX6_isStep_11 : decode cX6_isStep 11 = .ok (.getfield 7, 3) := by decide +kernel
theorem dX6_isStep_14 : decode cX6_isStep 14 = .ok (.iload_n 1, 1) := by decide +kernel
theorem dX6_isStep_15 : decode cX6_isStep 15 = .ok (.iaload, 1) := by decide +kernel
theorem dX6_isStep_16 : decode cX6_isStep 16 = .ok (.iconst 1, 1) := by decide +kernel
theorem dX6_isStep_17 : decode cX6_isStep 17 = .ok (.isub, 1) := by decide +kernel
theorem dX6_isStep_18 : decode cX6_isStep 18 = .ok (.invokestatic 87, 3) := by decide +kernel
theorem dX6_isStep_21 : decode cX6_isStep 21 = .ok (.ifCond .eq 7, 3) := by decide +kernel
theorem dX6_isStep_24 : decode cX6_isStep 24 = .ok (.iconst 1, 1) := by decide +kernel
theorem dX6_isStep_25 : decode cX6_isStep 25 = .ok (.goto 4, 3) := by decide +kernel
theorem dX6_isStep_28 : decode cX6_isStep 28 = .ok (.iconst 0, 1) := by decide +kernel
theorem dX6_isStep_29 : decode cX6_isStep 29 = .ok (.ireturn, 1) := by decide +kernel
set_option maxRecDepth 20000 in
theorem ggX6_wants_X6_isStep : GoodIn wsX6_wants wsX6_isStep := goodIn_r _ [9, 10, 11, 12, 13, 8, 14, 15, 16, 17, 18, 19, 20, 21, 22, 23, 24, 25, 26, 27, 28, 29, 30, 31, 32, 33, 34, 35, 36, 37, 38, 39, 40, 41, 42, 43, 44, 45, 46, 47] (by decide +kernel) (by decide +kernel)
set_option maxRecDepth 20000 in
theorem gX6_wants_X6_isStep : GoodIn wsX6_wants (wsV RX6 95 RX6 yX6_isStep wsX6_isStep) := goodIn_app (goodIn_of _ (by decide +kernel)) ggX6_wants_X6_isStep
set_option maxRecDepth 20000 in
theorem ggX6_wants_X6_isWork : GoodIn wsX6_wants wsX6_isWork := goodIn_r _ [14, 15, 16, 17, 8, 18, 19, 20, 21, 22, 23, 24, 25, 26, 27, 28, 29, 30, 31, 32, 33, 34, 35, 36, 37, 38, 39, 40, 41, 42, 43, 44, 45, 46, 47] (by decide +kernel) (by decide +kernel)
set_option maxRecDepth 20000 in
theorem gX6_wants_X6_isWork : GoodIn wsX6_wants (wsV RX6 91 RX6 yX6_isWork wsX6_isWork) := goodIn_app (goodIn_of _ (by decide +kernel)) ggX6_wants_X6_isWork
set_option maxRecDepth 20000 in
theorem ggX6_wants_X6_in : GoodIn wsX6_wants wsX6_in := goodIn_r _ [18] (by decide +kernel) (by decide +kernel)
set_option maxRecDepth 20000 in
theorem gX6_wants_X6_in : GoodIn wsX6_wants (va_wsS RX6 87 yX6_in wsX6_in) := goodIn_app (goodIn_of _ (by decide +kernel)) ggX6_wants_X6_in
theorem dX6_wants_0 : decode cX6_wants 0 = .ok (.aload_n 0, 1) := by decide +kernel
theorem dX6_wants_1 : decode cX6_wants 1 = .ok (.iconst 0, 1) := by decide +kernel
theorem dX6_wants_2 : decode cX6_wants 2 = .ok (.putfield 80, 3) := by decide +kernel
theorem dX6_wants_5 : decode cX6_wants 5 = .ok (.aload_n 0, 1) := by decide +kernel
theorem dX6_wants_6 : decode cX6_wants 6 = .ok (.iload_n 1, 1) := by decide +kernel
theorem dX6_wants_7 : decode cX6_wants 7 = .ok (.iload_n 2, 1) := by decide +kernel
theorem dX6_wants_8 : decode cX6_wants 8 = .ok (.invokevirtual 95, 3) := by decide +kernel
theorem dX6_wants_11 : decode cX6_wants 11 = .ok (.ifCond .ne 5, 3) := by decide +kernel
theorem dX6_wants_14 : decode cX6_wants 14 = .ok (.iconst (-1), 1) := by decide +kernel
theorem dX6_wants_15 : decode cX6_wants 15 = .ok (.ireturn, 1) := by decide +kernel
theorem dX6_wants_16 : decode cX6_wants 16 = .ok (.iload_n 3, 1) := by decide +kernel
theorem dX6_wants_17 : decode cX6_wants 17 = .ok (.ifCond .eq 21, 3) := by decide +kernel
theorem dX6_wants_20 : decode cX6_wants 20 = .ok (.aload_n 0, 1) := by decide +kernel
theorem dX6_wants_21 : decode cX6_wants 21 = .ok (.iload 4, 2) := by decide +kernel
theorem dX6_wants_23 : decode cX6_wants 23 = .ok (.invokevirtual 91, 3) := by decide +kernel
theorem dX6_wants_26 : decode cX6_wants 26 = .ok (.ifCond .eq 23, 3) := by decide +kernel
theorem dX6_wants_29 : decode cX6_wants 29 = .ok (.iload 4, 2) := by decide +kernel
theorem dX6_wants_31 : decode cX6_wants 31 = .ok (.iload_n 1, 1) := by decide +kernel
theorem dX6_wants_32 : decode cX6_wants 32 = .ok (.if_icmp .ne 20, 3) := by decide +kernel
theorem dX6_wants_35 : decode cX6_wants 35 = .ok (.goto 14, 3) := by decide +kernel
theorem dX6_wants_38 : decode cX6_wants 38 = .ok (.iload 4, 2) := by decide +kernel
theorem dX6_wants_40 : decode cX6_wants 40 = .ok (.iconst 0, 1) := by decide +kernel
theorem dX6_wants_41 : decode cX6_wants 41 = .ok (.bipush 9, 2) := by decide +kernel
theorem dX6_wants_43 : decode cX6_wants 43 = .ok (.invokestatic 87, 3) := by decide +kernel
theorem dX6_wants_46 : decode cX6_wants 46 = .ok (.ifCond .ne 6, 3) := by decide +kernel
theorem dX6_wants_49 : decode cX6_wants 49 = .ok (.bipush (-2), 2) := by decide +kernel
theorem dX6_wants_51 : decode cX6_wants 51 = .ok (.ireturn, 1) := by decide +kernel
theorem dX6_wants_52 : decode cX6_wants 52 = .ok (.aload_n 0, 1) := by decide +kernel
theorem dX6_wants_53 : decode cX6_wants 53 = .ok (.getfield 28, 3) := by decide +kernel
theorem dX6_wants_56 : decode cX6_wants 56 = .ok (.iload_n 1, 1) := by decide +kernel
theorem dX6_wants_57 : decode cX6_wants 57 = .ok (.baload, 1) := by decide +kernel
theorem dX6_wants_58 : decode cX6_wants 58 = .ok (.ifCond .eq 6, 3) := by decide +kernel
theorem dX6_wants_61 : decode cX6_wants 61 = .ok (.bipush (-3), 2) := by decide +kernel
theorem dX6_wants_63 : decode cX6_wants 63 = .ok (.ireturn, 1) := by decide +kernel
theorem dX6_wants_64 : decode cX6_wants 64 = .ok (.bipush 10, 2) := by decide +kernel
theorem dX6_wants_66 : decode cX6_wants 66 = .ok (.iload_n 1, 1) := by decide +kernel
theorem dX6_wants_67 : decode cX6_wants 67 = .ok (.imul, 1) := by decide +kernel
theorem dX6_wants_68 : decode cX6_wants 68 = .ok (.iload_n 2, 1) := by decide +kernel
theorem dX6_wants_69 : decode cX6_wants 69 = .ok (.iadd, 1) := by decide +kernel
theorem dX6_wants_70 : decode cX6_wants 70 = .ok (.istore 5, 2) := by decide +kernel
theorem dX6_wants_72 : decode cX6_wants 72 = .ok (.aload_n 0, 1) := by decide +kernel
theorem dX6_wants_73 : decode cX6_wants 73 = .ok (.getfield 44, 3) := by decide +kernel
theorem dX6_wants_76 : decode cX6_wants 76 = .ok (.iload 5, 2) := by decide +kernel
theorem dX6_wants_78 : decode cX6_wants 78 = .ok (.iaload, 1) := by decide +kernel
theorem dX6_wants_79 : decode cX6_wants 79 = .ok (.iconst 4, 1) := by decide +kernel
theorem dX6_wants_80 : decode cX6_wants 80 = .ok (.if_icmp .ne 6, 3) := by decide +kernel
theorem dX6_wants_83 : decode cX6_wants 83 = .ok (.bipush (-4), 2) := by decide +kernel
theorem dX6_wants_85 : decode cX6_wants 85 = .ok (.ireturn, 1) := by decide +kernel
theorem dX6_wants_86 : decode cX6_wants 86 = .ok (.aload_n 0, 1) := by decide +kernel
theorem dX6_wants_87 : decode cX6_wants 87 = .ok (.getfield 47, 3) := by decide +kernel
theorem dX6_wants_90 : decode cX6_wants 90 = .ok (.iconst 4, 1) := by decide +kernel
theorem dX6_wants_91 : decode cX6_wants 91 = .ok (.iload 5, 2) := by decide +kernel
theorem dX6_wants_93 : decode cX6_wants 93 = .ok (.imul, 1) := by decide +kernel
theorem dX6_wants_94 : decode cX6_wants 94 = .ok (.aload_n 0, 1) := by decide +kernel
theorem dX6_wants_95 : decode cX6_wants 95 = .ok (.getfield 44, 3) := by decide +kernel
theorem dX6_wants_98 : decode cX6_wants 98 = .ok (.iload 5, 2) := by decide +kernel
theorem dX6_wants_100 : decode cX6_wants 100 = .ok (.iaload, 1) := by decide +kernel
theorem dX6_wants_101 : decode cX6_wants 101 = .ok (.iadd, 1) := by decide +kernel
theorem dX6_wants_102 : decode cX6_wants 102 = .ok (.iload_n 3, 1) := by decide +kernel
theorem dX6_wants_103 : decode cX6_wants 103 = .ok (.ifCond .eq 11, 3) := by decide +kernel
theorem dX6_wants_106 : decode cX6_wants 106 = .ok (.bipush 100, 2) := by decide +kernel
theorem dX6_wants_108 : decode cX6_wants 108 = .ok (.iload 4, 2) := by decide +kernel
theorem dX6_wants_110 : decode cX6_wants 110 = .ok (.iadd, 1) := by decide +kernel
theorem dX6_wants_111 : decode cX6_wants 111 = .ok (.goto 5, 3) := by decide +kernel
theorem dX6_wants_114 : decode cX6_wants 114 = .ok (.iload 4, 2) := by decide +kernel
theorem dX6_wants_116 : decode cX6_wants 116 = .ok (.iastore, 1) := by decide +kernel
theorem dX6_wants_117 : decode cX6_wants 117 = .ok (.aload_n 0, 1) := by decide +kernel
theorem dX6_wants_118 : decode cX6_wants 118 = .ok (.getfield 44, 3) := by decide +kernel
theorem dX6_wants_121 : decode cX6_wants 121 = .ok (.iload 5, 2) := by decide +kernel
theorem dX6_wants_123 : decode cX6_wants 123 = .ok (.dup2, 1) := by decide +kernel
theorem dX6_wants_124 : decode cX6_wants 124 = .ok (.iaload, 1) := by decide +kernel
theorem dX6_wants_125 : decode cX6_wants 125 = .ok (.iconst 1, 1) := by decide +kernel
theorem dX6_wants_126 : decode cX6_wants 126 = .ok (.iadd, 1) := by decide +kernel
theorem dX6_wants_127 : decode cX6_wants 127 = .ok (.iastore, 1) := by decide +kernel
theorem dX6_wants_128 : decode cX6_wants 128 = .ok (.aload_n 0, 1) := by decide +kernel
theorem dX6_wants_129 : decode cX6_wants 129 = .ok (.getfield 44, 3) := by decide +kernel
theorem dX6_wants_132 : decode cX6_wants 132 = .ok (.iload 5, 2) := by decide +kernel
theorem dX6_wants_134 : decode cX6_wants 134 = .ok (.iaload, 1) := by decide +kernel
theorem dX6_wants_135 : decode cX6_wants 135 = .ok (.ireturn, 1) := by decide +kernel
set_option maxRecDepth 20000 in
theorem ggX6_sends_X6_isStep : GoodIn wsX6_sends wsX6_isStep := goodIn_r _ [9, 10, 11, 12, 13, 8, 14, 15, 16, 17, 18, 19, 20, 21, 22, 23, 24, 25, 26, 27, 28, 29, 30, 31, 32, 33, 34, 35, 36, 37, 38, 39, 40, 41, 42, 43, 44, 45, 46, 47] (by decide +kernel) (by decide +kernel)
set_option maxRecDepth 20000 in
theorem gX6_sends_X6_isStep : GoodIn wsX6_sends (wsV RX6 95 RX6 yX6_isStep wsX6_isStep) := goodIn_app (goodIn_of _ (by decide +kernel)) ggX6_sends_X6_isStep
set_option maxRecDepth 20000 in
theorem ggX6_sends_X6_isWork : GoodIn wsX6_sends wsX6_isWork := goodIn_r _ [14, 15, 16, 17, 8, 18, 19, 20, 21, 22, 23, 24, 25, 26, 27, 28, 29, 30, 31, 32, 33, 34, 35, 36, 37, 38, 39, 40, 41, 42, 43, 44, 45, 46, 47] (by decide +kernel) (by decide +kernel)
set_option maxRecDepth 20000 in
theorem gX6_sends_X6_isWork : GoodIn wsX6_sends (wsV RX6 91 RX6 yX6_isWork wsX6_isWork) := goodIn_app (goodIn_of _ (by decide +kernel)) ggX6_sends_X6_isWork
theorem dX6_sends_0 : decode cX6_sends 0 = .ok (.aload_n 0, 1) := by decide +kernel
theorem dX6_sends_1 : decode cX6_sends 1 = .ok (.iconst 0, 1) := by decide +kernel
theorem dX6_sends_2 : decode cX6_sends 2 = .ok (.putfield 80, 3) := by decide +kernel
theorem dX6_sends_5 : decode cX6_sends 5 = .ok (.aload_n 0, 1) := by decide +kernel
theorem dX6_sends_6 : decode cX6_sends 6 = .ok (.iload_n 1, 1) := by decide +kernel
theorem dX6_sends_7 : decode cX6_sends 7 = .ok (.iload_n 2, 1) := by decide +kernel
theorem dX6_sends_8 : decode cX6_sends 8 = .ok (.invokevirtual 95, 3) := by decide +kernel
theorem dX6_sends_11 : decode cX6_sends 11 = .ok (.ifCond .ne 5, 3) := by decide +kernel
theorem dX6_sends_14 : decode cX6_sends 14 = .ok (.iconst (-1), 1) := by decide +kernel
theorem dX6_sends_15 : decode cX6_sends 15 = .ok (.ireturn, 1) := by decide +kernel
theorem dX6_sends_16 : decode cX6_sends 16 = .ok (.aload_n 0, 1) := by decide +kernel
theorem dX6_sends_17 : decode cX6_sends 17 = .ok (.iload_n 3, 1) := by decide +kernel
theorem dX6_sends_18 : decode cX6_sends 18 = .ok (.invokevirtual 91, 3) := by decide +kernel
theorem dX6_sends_21 : decode cX6_sends 21 = .ok (.ifCond .eq 8, 3) := by decide +kernel
theorem dX6_sends_24 : decode cX6_sends 24 = .ok (.iload_n 3, 1) := by decide +kernel
theorem dX6_sends_25 : decode cX6_sends 25 = .ok (.iload_n 1, 1) := by decide +kernel
theorem dX6_sends_26 : decode cX6_sends 26 = .ok (.if_icmp .ne 6, 3) := by decide +kernel
theorem dX6_sends_29 : decode cX6_sends 29 = .ok (.bipush (-2), 2) := by decide +kernel
theorem dX6_sends_31 : decode cX6_sends 31 = .ok (.ireturn, 1) := by decide +kernel
theorem dX6_sends_32 : decode cX6_sends 32 = .ok (.aload_n 0, 1) := by decide +kernel
theorem dX6_sends_33 : decode cX6_sends 33 = .ok (.getfield 28, 3) := by decide +kernel
theorem dX6_sends_36 : decode cX6_sends 36 = .ok (.iload_n 1, 1) := by decide +kernel
theorem dX6_sends_37 : decode cX6_sends 37 = .ok (.baload, 1) := by decide +kernel
theorem dX6_sends_38 : decode cX6_sends 38 = .ok (.ifCond .eq 6, 3) := by decide +kernel
theorem dX6_sends_41 : decode cX6_sends 41 = .ok (.bipush (-3), 2) := by decide +kernel
theorem dX6_sends_43 : decode cX6_sends 43 = .ok (.ireturn, 1) := by decide +kernel
theorem dX6_sends_44 : decode cX6_sends 44 = .ok (.bipush 10, 2) := by decide +kernel
theorem dX6_sends_46 : decode cX6_sends 46 = .ok (.iload_n 1, 1) := by decide +kernel
theorem dX6_sends_47 : decode cX6_sends 47 = .ok (.imul, 1) := by decide +kernel
theorem dX6_sends_48 : decode cX6_sends 48 = .ok (.iload_n 2, 1) := by decide +kernel
theorem dX6_sends_49 : decode cX6_sends 49 = .ok (.iadd, 1) := by decide +kernel
theorem dX6_sends_50 : decode cX6_sends 50 = .ok (.istore 4, 2) := by decide +kernel
theorem dX6_sends_52 : decode cX6_sends 52 = .ok (.aload_n 0, 1) := by decide +kernel
theorem dX6_sends_53 : decode cX6_sends 53 = .ok (.getfield 50, 3) := by decide +kernel
theorem dX6_sends_56 : decode cX6_sends 56 = .ok (.iload 4, 2) := by decide +kernel
theorem dX6_sends_58 : decode cX6_sends 58 = .ok (.iaload, 1) := by decide +kernel
theorem dX6_sends_59 : decode cX6_sends 59 = .ok (.iconst 2, 1) := by decide +kernel
theorem dX6_sends_60 : decode cX6_sends 60 = .ok (.if_icmp .ne 6, 3) := by decide +kernel
theorem dX6_sends_63 : decode cX6_sends 63 = .ok (.bipush (-4), 2) := by decide +kernel
theorem dX6_sends_65 : decode cX6_sends 65 = .ok (.ireturn, 1) := by decide +kernel
theorem dX6_sends_66 : decode cX6_sends 66 = .ok (.aload_n 0, 1) := by decide +kernel
theorem dX6_sends_67 : decode cX6_sends 67 = .ok (.getfield 53, 3) := by decide +kernel
theorem dX6_sends_70 : decode cX6_sends 70 = .ok (.iconst 2, 1) := by decide +kernel
theorem dX6_sends_71 : decode cX6_sends 71 = .ok (.iload 4, 2) := by decide +kernel
theorem dX6_sends_73 : decode cX6_sends 73 = .ok (.imul, 1) := by decide +kernel
theorem dX6_sends_74 : decode cX6_sends 74 = .ok (.aload_n 0, 1) := by decide +kernel
theorem dX6_sends_75 : decode cX6_sends 75 = .ok (.getfield 50, 3) := by decide +kernel
theorem dX6_sends_78 : decode cX6_sends 78 = .ok (.iload 4, 2) := by decide +kernel
theorem dX6_sends_80 : decode cX6_sends 80 = .ok (.iaload, 1) := by decide +kernel
theorem dX6_sends_81 : decode cX6_sends 81 = .ok (.iadd, 1) := by decide +kernel
theorem dX6_sends_82 : decode cX6_sends 82 = .ok (.iload_n 3, 1) := by decide +kernel
theorem dX6_sends_83 : decode cX6_sends 83 = .ok (.iastore, 1) := by decide +kernel
theorem dX6_sends_84 : decode cX6_sends 84 = .ok (.aload_n 0, 1) := by decide +kernel
theorem dX6_sends_85 : decode cX6_sends 85 = .ok (.getfield 50, 3) := by decide +kernel
theorem dX6_sends_88 : decode cX6_sends 88 = .ok (.iload 4, 2) := by decide +kernel
theorem dX6_sends_90 : decode cX6_sends 90 = .ok (.dup2, 1) := by decide +kernel
theorem dX6_sends_91 : decode cX6_sends 91 = .ok (.iaload, 1) := by decide +kernel
theorem dX6_sends_92 : decode cX6_sends 92 = .ok (.iconst 1, 1) := by decide +kernel
theorem dX6_sends_93 : decode cX6_sends 93 = .ok (.iadd, 1) := by decide +kernel
theorem dX6_sends_94 : decode cX6_sends 94 = .ok (.iastore, 1) := by decide +kernel
theorem dX6_sends_95 : decode cX6_sends 95 = .ok (.aload_n 0, 1) := by decide +kernel
theorem dX6_sends_96 : decode cX6_sends 96 = .ok (.getfield 50, 3) := by decide +kernel
theorem dX6_sends_99 : decode cX6_sends 99 = .ok (.iload 4, 2) := by decide +kernel
theorem dX6_sends_101 : decode cX6_sends 101 = .ok (.iaload, 1) := by decide +kernel
theorem dX6_sends_102 : decode cX6_sends 102 = .ok (.ireturn, 1) := by decide +kernel
set_option maxRecDepth 20000 in
theorem ggX6_loses_X6_in : GoodIn wsX6_loses wsX6_in := goodIn_r _ [6] (by decide +kernel) (by decide +kernel)
