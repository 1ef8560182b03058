set_option maxRecDepth 20000 in
theorem ggX6_does_X6_undo : GoodIn wsX6_does wsX6_undo := goodIn_r _ [40, 41, 42, 43, 44, 45, 1, 46, 47, 48, 12, 49, 22, 23, 60, 61, 62, 63, 64, 65, 66, 67, 68, 69, 70, 71, 72, 73, 74, 75, 76, 77, 78, 79, 80, 81, 82, 83, 84, 85, 86, 87, 88] (by decide +kernel) (by decide +kernel)
set_option maxRecDepth 20000 in
theorem gX6_does_X6_undo : GoodIn wsX6_does (wsV RX6 125 RX6 yX6_undo wsX6_undo) := goodIn_app (goodIn_of _ (by decide +kernel)) ggX6_does_X6_undo
set_option maxRecDepth 20000 in
theorem ggX6_does_X6_acts : GoodIn wsX6_does wsX6_acts := goodIn_r _ [53, 3, 22, 42, 41, 44, 45, 43, 54, 55, 56, 57, 58, 35, 34, 4, 59, 1, 46, 47, 48, 12, 49, 23, 60, 61, 62, 63, 64, 65, 66, 67, 68, 69, 70, 71, 72, 73, 74, 75, 76, 77, 78, 79, 80, 81, 82, 83, 84, 85, 86, 87, 88] (by decide +kernel) (by decide +kernel)
set_option maxRecDepth 20000 in
theorem gX6_does_X6_acts : GoodIn wsX6_does (wsV RX6 129 RX6 yX6_acts wsX6_acts) := goodIn_app (goodIn_of _ (by decide +kernel)) ggX6_does_X6_acts
theorem dX6_does_0 : decode cX6_does 0 = .ok (.aload_n 0, 1) := by decide +kernel
theorem dX6_does_1 : decode cX6_does 1 = .ok (.iload_n 1, 1) := by decide +kernel
theorem dX6_does_2 : decode cX6_does 2 = .ok (.invokevirtual 91, 3) := by decide +kernel
theorem dX6_does_5 : decode cX6_does 5 = .ok (.ifCond .eq 12, 3) := by decide +kernel
theorem dX6_does_8 : decode cX6_does 8 = .ok (.aload_n 0, 1) := by decide +kernel
theorem dX6_does_9 : decode cX6_does 9 = .ok (.getfield 16, 3) := by decide +kernel
theorem dX6_does_12 : decode cX6_does 12 = .ok (.iload_n 1, 1) := by decide +kernel
theorem dX6_does_13 : decode cX6_does 13 = .ok (.iaload, 1) := by decide +kernel
theorem dX6_does_14 : decode cX6_does 14 = .ok (.ifCond .eq 5, 3) := by decide +kernel
theorem dX6_does_17 : decode cX6_does 17 = .ok (.iconst 0, 1) := by decide +kernel
theorem dX6_does_18 : decode cX6_does 18 = .ok (.ireturn, 1) := by decide +kernel
theorem dX6_does_19 : decode cX6_does 19 = .ok (.aload_n 0, 1) := by decide +kernel
theorem dX6_does_20 : decode cX6_does 20 = .ok (.getfield 28, 3) := by decide +kernel
theorem dX6_does_23 : decode cX6_does 23 = .ok (.iload_n 1, 1) := by decide +kernel
theorem dX6_does_24 : decode cX6_does 24 = .ok (.iconst 1, 1) := by decide +kernel
theorem dX6_does_25 : decode cX6_does 25 = .ok (.bastore, 1) := by decide +kernel
theorem dX6_does_26 : decode cX6_does 26 = .ok (.bipush 10, 2) := by decide +kernel
theorem dX6_does_28 : decode cX6_does 28 = .ok (.iload_n 1, 1) := by decide +kernel
theorem dX6_does_29 : decode cX6_does 29 = .ok (.imul, 1) := by decide +kernel
theorem dX6_does_30 : decode cX6_does 30 = .ok (.aload_n 0, 1) := by decide +kernel
theorem dX6_does_31 : decode cX6_does 31 = .ok (.getfield 19, 3) := by decide +kernel
theorem dX6_does_34 : decode cX6_does 34 = .ok (.iload_n 1, 1) := by decide +kernel
theorem dX6_does_35 : decode cX6_does 35 = .ok (.iaload, 1) := by decide +kernel
theorem dX6_does_36 : decode cX6_does 36 = .ok (.iadd, 1) := by decide +kernel
theorem dX6_does_37 : decode cX6_does 37 = .ok (.istore_n 2, 1) := by decide +kernel
theorem dX6_does_38 : decode cX6_does 38 = .ok (.aload_n 0, 1) := by decide +kernel
theorem dX6_does_39 : decode cX6_does 39 = .ok (.getfield 22, 3) := by decide +kernel
theorem dX6_does_42 : decode cX6_does 42 = .ok (.iload_n 1, 1) := by decide +kernel
theorem dX6_does_43 : decode cX6_does 43 = .ok (.iaload, 1) := by decide +kernel
theorem dX6_does_44 : decode cX6_does 44 = .ok (.aload_n 0, 1) := by decide +kernel
theorem dX6_does_45 : decode cX6_does 45 = .ok (.getfield 44, 3) := by decide +kernel
theorem dX6_does_48 : decode cX6_does 48 = .ok (.iload_n 2, 1) := by decide +kernel
theorem dX6_does_49 : decode cX6_does 49 = .ok (.iaload, 1) := by decide +kernel
theorem dX6_does_50 : decode cX6_does 50 = .ok (.if_icmp .ge 52, 3) := by decide +kernel
theorem dX6_does_53 : decode cX6_does 53 = .ok (.aload_n 0, 1) := by decide +kernel
theorem dX6_does_54 : decode cX6_does 54 = .ok (.getfield 47, 3) := by decide +kernel
theorem dX6_does_57 : decode cX6_does 57 = .ok (.iconst 4, 1) := by decide +kernel
theorem dX6_does_58 : decode cX6_does 58 = .ok (.iload_n 2, 1) := by decide +kernel
theorem dX6_does_59 : decode cX6_does 59 = .ok (.imul, 1) := by decide +kernel
theorem dX6_does_60 : decode cX6_does 60 = .ok (.aload_n 0, 1) := by decide +kernel
theorem dX6_does_61 : decode cX6_does 61 = .ok (.getfield 22, 3) := by decide +kernel
theorem dX6_does_64 : decode cX6_does 64 = .ok (.iload_n 1, 1) := by decide +kernel
theorem dX6_does_65 : decode cX6_does 65 = .ok (.iaload, 1) := by decide +kernel
theorem dX6_does_66 : decode cX6_does 66 = .ok (.iadd, 1) := by decide +kernel
theorem dX6_does_67 : decode cX6_does 67 = .ok (.iaload, 1) := by decide +kernel
theorem dX6_does_68 : decode cX6_does 68 = .ok (.istore_n 3, 1) := by decide +kernel
theorem dX6_does_69 : decode cX6_does 69 = .ok (.aload_n 0, 1) := by decide +kernel
theorem dX6_does_70 : decode cX6_does 70 = .ok (.getfield 25, 3) := by decide +kernel
theorem dX6_does_73 : decode cX6_does 73 = .ok (.iload_n 1, 1) := by decide +kernel
theorem dX6_does_74 : decode cX6_does 74 = .ok (.iload_n 3, 1) := by decide +kernel
theorem dX6_does_75 : decode cX6_does 75 = .ok (.bipush 100, 2) := by decide +kernel
theorem dX6_does_77 : decode cX6_does 77 = .ok (.if_icmp .ge 12, 3) := by decide +kernel
theorem dX6_does_80 : decode cX6_does 80 = .ok (.aload_n 0, 1) := by decide +kernel
theorem dX6_does_81 : decode cX6_does 81 = .ok (.iload_n 1, 1) := by decide +kernel
theorem dX6_does_82 : decode cX6_does 82 = .ok (.iload_n 3, 1) := by decide +kernel
theorem dX6_does_83 : decode cX6_does 83 = .ok (.invokevirtual 119, 3) := by decide +kernel
theorem dX6_does_86 : decode cX6_does 86 = .ok (.goto 12, 3) := by decide +kernel
theorem dX6_does_89 : decode cX6_does 89 = .ok (.aload_n 0, 1) := by decide +kernel
theorem dX6_does_90 : decode cX6_does 90 = .ok (.iload_n 1, 1) := by decide +kernel
theorem dX6_does_91 : decode cX6_does 91 = .ok (.iload_n 3, 1) := by decide +kernel
theorem dX6_does_92 : decode cX6_does 92 = .ok (.bipush 100, 2) := by decide +kernel
theorem dX6_does_94 : decode cX6_does 94 = .ok (.isub, 1) := by decide +kernel
theorem dX6_does_95 : decode cX6_does 95 = .ok (.invokevirtual 122, 3) := by decide +kernel
theorem dX6_does_98 : decode cX6_does 98 = .ok (.iastore, 1) := by decide +kernel
theorem dX6_does_99 : decode cX6_does 99 = .ok (.goto 47, 3) := by decide +kernel
theorem dX6_does_102 : decode cX6_does 102 = .ok (.aload_n 0, 1) := by decide +kernel
theorem dX6_does_103 : decode cX6_does 103 = .ok (.getfield 13, 3) := by decide +kernel
theorem dX6_does_106 : decode cX6_does 106 = .ok (.iload_n 1, 1) := by decide +kernel
theorem dX6_does_107 : decode cX6_does 107 = .ok (.iaload, 1) := by decide +kernel
theorem dX6_does_108 : decode cX6_does 108 = .ok (.aload_n 0, 1) := by decide +kernel
theorem dX6_does_109 : decode cX6_does 109 = .ok (.getfield 19, 3) := by decide +kernel
theorem dX6_does_112 : decode cX6_does 112 = .ok (.iload_n 1, 1) := by decide +kernel
theorem dX6_does_113 : decode cX6_does 113 = .ok (.iaload, 1) := by decide +kernel
theorem dX6_does_114 : decode cX6_does 114 = .ok (.if_icmp .ne 20, 3) := by decide +kernel
theorem dX6_does_117 : decode cX6_does 117 = .ok (.aload_n 0, 1) := by decide +kernel
theorem dX6_does_118 : decode cX6_does 118 = .ok (.iload_n 1, 1) := by decide +kernel
theorem dX6_does_119 : decode cX6_does 119 = .ok (.iconst 2, 1) := by decide +kernel
theorem dX6_does_120 : decode cX6_does 120 = .ok (.invokevirtual 125, 3) := by decide +kernel
theorem dX6_does_123 : decode cX6_does 123 = .ok (.aload_n 0, 1) := by decide +kernel
theorem dX6_does_124 : decode cX6_does 124 = .ok (.getfield 25, 3) := by decide +kernel
theorem dX6_does_127 : decode cX6_does 127 = .ok (.iload_n 1, 1) := by decide +kernel
theorem dX6_does_128 : decode cX6_does 128 = .ok (.bipush 6, 2) := by decide +kernel
theorem dX6_does_130 : decode cX6_does 130 = .ok (.iastore, 1) := by decide +kernel
theorem dX6_does_131 : decode cX6_does 131 = .ok (.goto 15, 3) := by decide +kernel
theorem dX6_does_134 : decode cX6_does 134 = .ok (.aload_n 0, 1) := by decide +kernel
theorem dX6_does_135 : decode cX6_does 135 = .ok (.iload_n 1, 1) := by decide +kernel
theorem dX6_does_136 : decode cX6_does 136 = .ok (.invokevirtual 129, 3) := by decide +kernel
theorem dX6_does_139 : decode cX6_does 139 = .ok (.aload_n 0, 1) := by decide +kernel
theorem dX6_does_140 : decode cX6_does 140 = .ok (.getfield 25, 3) := by decide +kernel
theorem dX6_does_143 : decode cX6_does 143 = .ok (.iload_n 1, 1) := by decide +kernel
theorem dX6_does_144 : decode cX6_does 144 = .ok (.iconst 2, 1) := by decide +kernel
theorem dX6_does_145 : decode cX6_does 145 = .ok (.iastore, 1) := by decide +kernel
theorem dX6_does_146 : decode cX6_does 146 = .ok (.aload_n 0, 1) := by decide +kernel
theorem dX6_does_147 : decode cX6_does 147 = .ok (.getfield 25, 3) := by decide +kernel
theorem dX6_does_150 : decode cX6_does 150 = .ok (.iload_n 1, 1) := by decide +kernel
theorem dX6_does_151 : decode cX6_does 151 = .ok (.iaload, 1) := by decide +kernel
theorem dX6_does_152 : decode cX6_does 152 = .ok (.ireturn, 1) := by decide +kernel
set_option maxRecDepth 20000 in
theorem ggX6_turn_X6_does : GoodIn wsX6_turn wsX6_does := goodIn_r _ [6, 7, 8, 9, 10, 11, 12, 13, 14, 15, 16, 17, 5, 18, 19, 20, 21, 22, 23, 24, 25, 26, 27, 28, 29, 30, 31, 32, 33, 34, 35, 36, 37, 38, 39, 40, 41, 42, 43, 44, 45, 46, 47, 48, 49, 50, 51, 52, 53, 54, 55, 56, 57, 58, 59, 60, 61, 62, 63, 64, 65, 66, 67, 68, 69, 70, 71, 72, 73, 74, 75, 76, 77, 78, 79, 80, 81, 82, 83, 84, 85, 86, 87, 88, 89, 90, 91, 92, 93] (by decide +kernel) (by decide +kernel)
set_option maxRecDepth 20000 in
theorem gX6_turn_X6_does : GoodIn wsX6_turn (wsV RX6 132 RX6 yX6_does wsX6_does) := goodIn_app (goodIn_of _ (by decide +kernel)) ggX6_turn_X6_does
theorem dX6_turn_0 : decode cX6_turn 0 = .ok (.aload_n 0, 1) := by decide +kernel
theorem dX6_turn_1 : decode cX6_turn 1 = .ok (.iconst 0, 1) := by decide +kernel
theorem dX6_turn_2 : decode cX6_turn 2 = .ok (.putfield 80, 3) := by decide +kernel
theorem dX6_turn_5 : decode cX6_turn 5 = .ok (.aload_n 0, 1) := by decide +kernel
theorem dX6_turn_6 : decode cX6_turn 6 = .ok (.iload_n 1, 1) := by decide +kernel
theorem dX6_turn_7 : decode cX6_turn 7 = .ok (.invokevirtual 132, 3) := by decide +kernel
theorem dX6_turn_10 : decode cX6_turn 10 = .ok (.ireturn, 1) := by decide +kernel
set_option maxRecDepth 20000 in
theorem ggX6_run_X6_does : GoodIn wsX6_run wsX6_does := goodIn_r _ [7, 8, 9, 10, 11, 12, 13, 14, 15, 16, 17, 18, 6, 19, 2, 20, 21, 22, 23, 24, 25, 26, 27, 28, 29, 30, 31, 32, 33, 34, 35, 36, 37, 38, 39, 40, 41, 42, 43, 44, 45, 46, 47, 48, 49, 50, 51, 52, 53, 54, 55, 56, 57, 58, 59, 60, 61, 62, 63, 64, 65, 66, 67, 68, 69, 70, 71, 72, 73, 74, 75, 76, 77, 78, 79, 80, 81, 82, 83, 84, 85, 86, 87, 88, 89, 90, 91, 92, 93] (by decide +kernel) (by decide +kernel)
set_option maxRecDepth 20000 in
theorem gX6_run_X6_does : GoodIn wsX6_run (wsV RX6 132 RX6 yX6_does wsX6_does) := goodIn_app (goodIn_of _ (by decide +kernel)) ggX6_run_X6_does
theorem dX6_run_0 : decode cX6_run 0 = .ok (.aload_n 0, 1) := by decide +kernel
theorem dX6_run_1 : decode cX6_run 1 = .ok (.iconst 0, 1) := by decide +kernel
theorem dX6_run_2 : decode cX6_run 2 = .ok (.putfield 80, 3) := by decide +kernel
theorem dX6_run_5 : decode cX6_run 5 = .ok (.iconst 0, 1) := by decide +kernel
theorem dX6_run_6 : decode cX6_run 6 = .ok (.istore_n 1, 1) := by decide +kernel
theorem dX6_run_7 : decode cX6_run 7 = .ok (.iconst 1, 1) := by decide +kernel
theorem dX6_run_8 : decode cX6_run 8 = .ok (.istore_n 2, 1) := by decide +kernel
theorem dX6_run_9 : decode cX6_run 9 = .ok (.iload_n 2, 1) := by decide +kernel
theorem dX6_run_10 : decode cX6_run 10 = .ok (.ifCond .eq 72, 3) := by decide +kernel
theorem dX6_run_13 : decode cX6_run 13 = .ok (.iconst 0, 1) := by decide +kernel
theorem dX6_run_14 : decode cX6_run 14 = .ok (.istore_n 2, 1) := by decide +kernel
theorem dX6_run_15 : decode cX6_run 15 = .ok (.iconst 0, 1) := by decide +kernel
theorem dX6_run_16 : decode cX6_run 16 = .ok (.istore_n 3, 1) := by decide +kernel
theorem dX6_run_17 : decode cX6_run 17 = .ok (.iload_n 3, 1) := by decide +kernel
theorem dX6_run_18 : decode cX6_run 18 = .ok (.aload_n 0, 1) := by decide +kernel
theorem dX6_run_19 : decode cX6_run 19 = .ok (.getfield 84, 3) := by decide +kernel
theorem dX6_run_22 : decode cX6_run 22 = .ok (.if_icmp .ge 57, 3) := by decide +kernel
theorem dX6_run_25 : decode cX6_run 25 = .ok (.aload_n 0, 1) := by decide +kernel
theorem dX6_run_26 : decode cX6_run 26 = .ok (.iload_n 3, 1) := by decide +kernel
theorem dX6_run_27 : decode cX6_run 27 = .ok (.invokevirtual 132, 3) := by decide +kernel
theorem dX6_run_30 : decode cX6_run 30 = .ok (.istore 4, 2) := by decide +kernel
theorem dX6_run_32 : decode cX6_run 32 = .ok (.iload_n 1, 1) := by decide +kernel
theorem dX6_run_33 : decode cX6_run 33 = .ok (.iload 4, 2) := by decide +kernel
theorem dX6_run_35 : decode cX6_run 35 = .ok (.iconst 2, 1) := by decide +kernel
theorem dX6_run_36 : decode cX6_run 36 = .ok (.if_icmp .ne 7, 3) := by decide +kernel
theorem dX6_run_39 : decode cX6_run 39 = .ok (.iconst 1, 1) := by decide +kernel
theorem dX6_run_40 : decode cX6_run 40 = .ok (.goto 4, 3) := by decide +kernel
theorem dX6_run_43 : decode cX6_run 43 = .ok (.iconst 0, 1) := by decide +kernel
theorem dX6_run_44 : decode cX6_run 44 = .ok (.iadd, 1) := by decide +kernel
theorem dX6_run_45 : decode cX6_run 45 = .ok (.istore_n 1, 1) := by decide +kernel
theorem dX6_run_46 : decode cX6_run 46 = .ok (.iload_n 2, 1) := by decide +kernel
theorem dX6_run_47 : decode cX6_run 47 = .ok (.ifCond .ne 20, 3) := by decide +kernel
theorem dX6_run_50 : decode cX6_run 50 = .ok (.iload 4, 2) := by decide +kernel
theorem dX6_run_52 : decode cX6_run 52 = .ok (.ifCond .eq 19, 3) := by decide +kernel
theorem dX6_run_55 : decode cX6_run 55 = .ok (.iload 4, 2) := by decide +kernel
theorem dX6_run_57 : decode cX6_run 57 = .ok (.iconst 3, 1) := by decide +kernel
theorem dX6_run_58 : decode cX6_run 58 = .ok (.if_icmp .eq 13, 3) := by decide +kernel
theorem dX6_run_61 : decode cX6_run 61 = .ok (.iload 4, 2) := by decide +kernel
theorem dX6_run_63 : decode cX6_run 63 = .ok (.iconst 4, 1) := by decide +kernel
theorem dX6_run_64 : decode cX6_run 64 = .ok (.if_icmp .eq 7, 3) := by decide +kernel
theorem dX6_run_67 : decode cX6_run 67 = .ok (.iconst 1, 1) := by decide +kernel
theorem dX6_run_68 : decode cX6_run 68 = .ok (.goto 4, 3) := by decide +kernel
theorem dX6_run_71 : decode cX6_run 71 = .ok (.iconst 0, 1) := by decide +kernel
theorem dX6_run_72 : decode cX6_run 72 = .ok (.istore_n 2, 1) := by decide +kernel
theorem dX6_run_73 : decode cX6_run 73 = .ok (.iinc 3 1, 3) := by decide +kernel
theorem dX6_run_76 : decode cX6_run 76 = .ok (.goto (-59), 3) := by decide +kernel
theorem dX6_run_79 : decode cX6_run 79 = .ok (.goto (-70), 3) := by decide +kernel
theorem dX6_run_82 : decode cX6_run 82 = .ok (.iload_n 1, 1) := by decide +kernel
theorem dX6_run_83 : decode cX6_run 83 = .ok (.ireturn, 1) := by decide +kernel
theorem dX6_waitsOn_0 : decode cX6_waitsOn 0 = .ok (.aload_n 0, 1) := by decide +kernel
theorem dX6_waitsOn_1 : decode cX6_waitsOn 1 = .ok (.getfield 38, 3) := by decide +kernel
theorem dX6_waitsOn_4 : decode cX6_waitsOn 4 = .ok (.iload_n 1, 1) := by decide +kernel
theorem dX6_waitsOn_5 : decode cX6_waitsOn 5 = .ok (.iaload, 1) := by decide +kernel
theorem dX6_waitsOn_6 : decode cX6_waitsOn 6 = .ok (.ifCond .ne 7, 3) := by decide +kernel
theorem dX6_waitsOn_9 : decode cX6_waitsOn 9 = .ok (.iconst (-1), 1) := by decide +kernel
theorem dX6_waitsOn_10 : decode cX6_waitsOn 10 = .ok (.goto 18, 3) := by decide +kernel
theorem dX6_waitsOn_13 : decode cX6_waitsOn 13 = .ok (.aload_n 0, 1) := by decide +kernel
theorem dX6_waitsOn_14 : decode cX6_waitsOn 14 = .ok (.getfield 56, 3) := by decide +kernel
theorem dX6_waitsOn_17 : decode cX6_waitsOn 17 = .ok (.aload_n 0, 1) := by decide +kernel
theorem dX6_waitsOn_18 : decode cX6_waitsOn 18 = .ok (.getfield 38, 3) := by decide +kernel
theorem dX6_waitsOn_21 : decode cX6_waitsOn 21 = .ok (.iload_n 1, 1) := by decide +kernel
theorem dX6_waitsOn_22 : decode cX6_waitsOn 22 = .ok (.iaload, 1) := by decide +kernel
theorem dX6_waitsOn_23 : decode cX6_waitsOn 23 = .ok (.iconst 1, 1) := by decide +kernel
theorem dX6_waitsOn_24 : decode cX6_waitsOn 24 = .ok (.isub, 1) := by decide +kernel
theorem dX6_waitsOn_25 : decode cX6_waitsOn 25 = .ok (.iaload, 1) := by decide +kernel
theorem dX6_waitsOn_26 : decode cX6_waitsOn 26 = .ok (.iconst 1, 1) := by decide +kernel
theorem dX6_waitsOn_27 : decode cX6_waitsOn 27 = .ok (.isub, 1) := by decide +kernel
theorem dX6_waitsOn_28 : decode cX6_waitsOn 28 = .ok (.ireturn, 1) := by decide +kernel
set_option maxRecDepth 20000 in
theorem ggX6_ring_X6_waitsOn : GoodIn wsX6_ring wsX6_waitsOn := goodIn_r _ [7, 8, 9, 24, 25, 26, 27, 28, 29, 30, 31, 32, 33, 34, 35, 36, 37, 38, 39, 40, 41, 42, 43, 44, 45, 46, 47, 48, 49, 50, 51, 52] (by decide +kernel) (by decide +kernel)
set_option maxRecDepth 20000 in
theorem gX6_ring_X6_waitsOn : GoodIn wsX6_ring (wsV RX6 136 RX6 yX6_waitsOn wsX6_waitsOn) := goodIn_app (goodIn_of _ (by decide +kernel)) ggX6_ring_X6_waitsOn
set_option maxRecDepth 20000 in
theorem ggX6_ring_X6_undo : GoodIn wsX6_ring wsX6_undo := goodIn_r _ [13, 14, 15, 16, 17, 18, 19, 20, 21, 22, 6, 23, 9, 8, 24, 25, 26, 27, 28, 29, 30, 31, 32, 33, 34, 35, 36, 37, 38, 39, 40, 41, 42, 43, 44, 45, 46, 47, 48, 49, 50, 51, 52] (by decide +kernel) (by decide +kernel)
set_option maxRecDepth 20000 in
theorem gX6_ring_X6_undo : GoodIn wsX6_ring (wsV RX6 125 RX6 yX6_undo wsX6_undo) := goodIn_app (goodIn_of _ (by decide +kernel)) ggX6_ring_X6_undo
theorem dX6_ring_0 : decode cX6_ring 0 = .ok (.aload_n 0, 1) := by decide +kernel
theorem dX6_ring_1 : decode cX6_ring 1 = .ok (.iconst 0, 1) := by decide +kernel
theorem dX6_ring_2 : decode cX6_ring 2 = .ok (.putfield 80, 3) := by decide +kernel
theorem dX6_ring_5 : decode cX6_ring 5 = .ok (.iconst 0, 1) := by decide +kernel
theorem dX6_ring_6 : decode cX6_ring 6 = .ok (.istore_n 1, 1) := by decide +kernel
theorem dX6_ring_7 : decode cX6_ring 7 = .ok (.iload_n 1, 1) := by decide +kernel
theorem dX6_ring_8 : decode cX6_ring 8 = .ok (.aload_n 0, 1) := by decide +kernel
theorem dX6_ring_9 : decode cX6_ring 9 = .ok (.getfield 84, 3) := by decide +kernel
theorem dX6_ring_12 : decode cX6_ring 12 = .ok (.if_icmp .ge 77, 3) := by decide +kernel
theorem dX6_ring_15 : decode cX6_ring 15 = .ok (.iload_n 1, 1) := by decide +kernel
theorem dX6_ring_16 : decode cX6_ring 16 = .ok (.istore_n 2, 1) := by decide +kernel
theorem dX6_ring_17 : decode cX6_ring 17 = .ok (.aload_n 0, 1) := by decide +kernel
theorem dX6_ring_18 : decode cX6_ring 18 = .ok (.iload_n 1, 1) := by decide +kernel
theorem dX6_ring_19 : decode cX6_ring 19 = .ok (.invokevirtual 136, 3) := by decide +kernel
theorem dX6_ring_22 : decode cX6_ring 22 = .ok (.istore_n 3, 1) := by decide +kernel
theorem dX6_ring_23 : decode cX6_ring 23 = .ok (.iconst 0, 1) := by decide +kernel
theorem dX6_ring_24 : decode cX6_ring 24 = .ok (.istore 4, 2) := by decide +kernel
theorem dX6_ring_26 : decode cX6_ring 26 = .ok (.iload 4, 2) := by decide +kernel
theorem dX6_ring_28 : decode cX6_ring 28 = .ok (.aload_n 0, 1) := by decide +kernel
theorem dX6_ring_29 : decode cX6_ring 29 = .ok (.getfield 84, 3) := by decide +kernel
theorem dX6_ring_32 : decode cX6_ring 32 = .ok (.if_icmp .ge 35, 3) := by decide +kernel
theorem dX6_ring_35 : decode cX6_ring 35 = .ok (.iload_n 3, 1) := by decide +kernel
theorem dX6_ring_36 : decode cX6_ring 36 = .ok (.ifCond .lt 31, 3) := by decide +kernel
theorem dX6_ring_39 : decode cX6_ring 39 = .ok (.iload_n 3, 1) := by decide +kernel
theorem dX6_ring_40 : decode cX6_ring 40 = .ok (.iload_n 1, 1) := by decide +kernel
theorem dX6_ring_41 : decode cX6_ring 41 = .ok (.if_icmp .eq 26, 3) := by decide +kernel
theorem dX6_ring_44 : decode cX6_ring 44 = .ok (.iload_n 3, 1) := by decide +kernel
theorem dX6_ring_45 : decode cX6_ring 45 = .ok (.iload_n 2, 1) := by decide +kernel
theorem dX6_ring_46 : decode cX6_ring 46 = .ok (.if_icmp .le 7, 3) := by decide +kernel
theorem dX6_ring_49 : decode cX6_ring 49 = .ok (.iload_n 3, 1) := by decide +kernel
theorem dX6_ring_50 : decode cX6_ring 50 = .ok (.goto 4, 3) := by decide +kernel
theorem dX6_ring_53 : decode cX6_ring 53 = .ok (.iload_n 2, 1) := by decide +kernel
theorem dX6_ring_54 : decode cX6_ring 54 = .ok (.istore_n 2, 1) := by decide +kernel
theorem dX6_ring_55 : decode cX6_ring 55 = .ok (.aload_n 0, 1) := by decide +kernel
theorem dX6_ring_56 : decode cX6_ring 56 = .ok (.iload_n 3, 1) := by decide +kernel
theorem dX6_ring_57 : decode cX6_ring 57 = .ok (.invokevirtual 136, 3) := by decide +kernel
theorem dX6_ring_60 : decode cX6_ring 60 = .ok (.istore_n 3, 1) := by decide +kernel
theorem dX6_ring_61 : decode cX6_ring 61 = .ok (.iinc 4 1, 3) := by decide +kernel
theorem dX6_ring_64 : decode cX6_ring 64 = .ok (.goto (-38), 3) := by decide +kernel
theorem dX6_ring_67 : decode cX6_ring 67 = .ok (.iload_n 3, 1) := by decide +kernel
theorem dX6_ring_68 : decode cX6_ring 68 = .ok (.iload_n 1, 1) := by decide +kernel
theorem dX6_ring_69 : decode cX6_ring 69 = .ok (.if_icmp .eq 6, 3) := by decide +kernel
theorem dX6_ring_72 : decode cX6_ring 72 = .ok (.goto 11, 3) := by decide +kernel
theorem dX6_ring_75 : decode cX6_ring 75 = .ok (.aload_n 0, 1) := by decide +kernel
theorem dX6_ring_76 : decode cX6_ring 76 = .ok (.iload_n 2, 1) := by decide +kernel
theorem dX6_ring_77 : decode cX6_ring 77 = .ok (.iconst 3, 1) := by decide +kernel
theorem dX6_ring_78 : decode cX6_ring 78 = .ok (.invokevirtual 125, 3) := by decide +kernel
theorem dX6_ring_81 : decode cX6_ring 81 = .ok (.iload_n 2, 1) := by decide +kernel
theorem dX6_ring_82 : decode cX6_ring 82 = .ok (.ireturn, 1) := by decide +kernel
theorem dX6_ring_83 : decode cX6_ring 83 = .ok (.iinc 1 1, 3) := by decide +kernel
theorem dX6_ring_86 : decode cX6_ring 86 = .ok (.goto (-79), 3) := by decide +kernel
theorem dX6_ring_89 : decode cX6_ring 89 = .ok (.iconst (-1), 1) := by decide +kernel
theorem dX6_ring_90 : decode cX6_ring 90 = .ok (.ireturn, 1) := by decide +kernel
set_option maxRecDepth 20000 in
theorem ggX6_interrupt_X6_isWork : GoodIn wsX6_interrupt wsX6_isWork := goodIn_r _ [8, 9, 10, 11, 7, 12, 28, 29, 30, 31, 32, 33, 34, 35, 36, 37, 38, 39, 40, 41, 42, 43, 44, 45, 46, 47, 48, 49, 50, 51, 52, 53, 54, 55, 56] (by decide +kernel) (by decide +kernel)
set_option maxRecDepth 20000 in
theorem gX6_interrupt_X6_isWork : GoodIn wsX6_interrupt (wsV RX6 91 RX6 yX6_isWork wsX6_isWork) := goodIn_app (goodIn_of _ (by decide +kernel)) ggX6_interrupt_X6_isWork
set_option maxRecDepth 20000 in
theorem ggX6_interrupt_X6_undo : GoodIn wsX6_interrupt wsX6_undo := goodIn_r _ [16, 17, 18, 19, 20, 21, 2, 22, 23, 24, 7, 25, 26, 27, 28, 29, 30, 31, 32, 33, 34, 35, 36, 37, 38, 39, 40, 41, 42, 43, 44, 45, 46, 47, 48, 49, 50, 51, 52, 53, 54, 55, 56] (by decide +kernel) (by decide +kernel)
set_option maxRecDepth 20000 in
theorem gX6_interrupt_X6_undo : GoodIn wsX6_interrupt (wsV RX6 125 RX6 yX6_undo wsX6_undo) := goodIn_app (goodIn_of _ (by decide +kernel)) ggX6_interrupt_X6_undo
theorem dX6_interrupt_0 : decode cX6_interrupt 0 = .ok (.aload_n 0, 1) := by decide +kernel
theorem dX6_interrupt_1 : decode cX6_interrupt 1 = .ok (.iconst 0, 1) := by decide +kernel
theorem dX6_interrupt_2 : decode cX6_interrupt 2 = .ok (.putfield 80, 3) := by decide +kernel
theorem dX6_interrupt_5 : decode cX6_interrupt 5 = .ok (.aload_n 0, 1) := by decide +kernel
theorem dX6_interrupt_6 : decode cX6_interrupt 6 = .ok (.iload_n 1, 1) := by decide +kernel
theorem dX6_interrupt_7 : decode cX6_interrupt 7 = .ok (.invokevirtual 91, 3) := by decide +kernel
theorem dX6_interrupt_10 : decode cX6_interrupt 10 = .ok (.ifCond .ne 5, 3) := by decide +kernel
theorem dX6_interrupt_13 : decode cX6_interrupt 13 = .ok (.iconst (-1), 1) := by decide +kernel
theorem dX6_interrupt_14 : decode cX6_interrupt 14 = .ok (.ireturn, 1) := by decide +kernel
theorem dX6_interrupt_15 : decode cX6_interrupt 15 = .ok (.aload_n 0, 1) := by decide +kernel
theorem dX6_interrupt_16 : decode cX6_interrupt 16 = .ok (.getfield 16, 3) := by decide +kernel
theorem dX6_interrupt_19 : decode cX6_interrupt 19 = .ok (.iload_n 1, 1) := by decide +kernel
theorem dX6_interrupt_20 : decode cX6_interrupt 20 = .ok (.iaload, 1) := by decide +kernel
theorem dX6_interrupt_21 : decode cX6_interrupt 21 = .ok (.ifCond .ne 23, 3) := by decide +kernel
theorem dX6_interrupt_24 : decode cX6_interrupt 24 = .ok (.aload_n 0, 1) := by decide +kernel
theorem dX6_interrupt_25 : decode cX6_interrupt 25 = .ok (.getfield 25, 3) := by decide +kernel
theorem dX6_interrupt_28 : decode cX6_interrupt 28 = .ok (.iload_n 1, 1) := by decide +kernel
theorem dX6_interrupt_29 : decode cX6_interrupt 29 = .ok (.iaload, 1) := by decide +kernel
theorem dX6_interrupt_30 : decode cX6_interrupt 30 = .ok (.iconst 3, 1) := by decide +kernel
theorem dX6_interrupt_31 : decode cX6_interrupt 31 = .ok (.if_icmp .eq 16, 3) := by decide +kernel
theorem dX6_interrupt_34 : decode cX6_interrupt 34 = .ok (.aload_n 0, 1) := by decide +kernel
theorem dX6_interrupt_35 : decode cX6_interrupt 35 = .ok (.getfield 25, 3) := by decide +kernel
theorem dX6_interrupt_38 : decode cX6_interrupt 38 = .ok (.iload_n 1, 1) := by decide +kernel
theorem dX6_interrupt_39 : decode cX6_interrupt 39 = .ok (.iaload, 1) := by decide +kernel
theorem dX6_interrupt_40 : decode cX6_interrupt 40 = .ok (.iconst 4, 1) := by decide +kernel
theorem dX6_interrupt_41 : decode cX6_interrupt 41 = .ok (.if_icmp .eq 6, 3) := by decide +kernel
theorem dX6_interrupt_44 : decode cX6_interrupt 44 = .ok (.bipush (-3), 2) := by decide +kernel
theorem dX6_interrupt_46 : decode cX6_interrupt 46 = .ok (.ireturn, 1) := by decide +kernel
theorem dX6_interrupt_47 : decode cX6_interrupt 47 = .ok (.aload_n 0, 1) := by decide +kernel
theorem dX6_interrupt_48 : decode cX6_interrupt 48 = .ok (.iload_n 1, 1) := by decide +kernel
theorem dX6_interrupt_49 : decode cX6_interrupt 49 = .ok (.iconst 4, 1) := by decide +kernel
theorem dX6_interrupt_50 : decode cX6_interrupt 50 = .ok (.invokevirtual 125, 3) := by decide +kernel
theorem dX6_interrupt_53 : decode cX6_interrupt 53 = .ok (.iconst 1, 1) := by decide +kernel
theorem dX6_interrupt_54 : decode cX6_interrupt 54 = .ok (.ireturn, 1) := by decide +kernel
set_option maxRecDepth 20000 in
theorem ggX6_again_X6_isWork : GoodIn wsX6_again wsX6_isWork := goodIn_r _ [12, 13, 14, 15, 11, 16, 17, 18, 19, 20, 21, 22, 23, 24, 25, 26, 27, 28, 29, 30, 31, 32, 33, 34, 35, 36, 37, 38, 39, 40, 41, 42, 43, 44, 45] (by decide +kernel) (by decide +kernel)
set_option maxRecDepth 20000 in
theorem gX6_again_X6_isWork : GoodIn wsX6_again (wsV RX6 91 RX6 yX6_isWork wsX6_isWork) := goodIn_app (goodIn_of _ (by decide +kernel)) ggX6_again_X6_isWork
set_option maxRecDepth 20000 in
theorem ggX6_again_X6_in : GoodIn wsX6_again wsX6_in := goodIn_r _ [16] (by decide +kernel) (by decide +kernel)
set_option maxRecDepth 20000 in
theorem gX6_again_X6_in : GoodIn wsX6_again (va_wsS RX6 87 yX6_in wsX6_in) := goodIn_app (goodIn_of _ (by decide +kernel)) ggX6_again_X6_in
theorem dX6_again_0 : decode cX6_again 0 = .ok (.aload_n 0, 1) := by decide +kernel
theorem dX6_again_1 : decode cX6_again 1 = .ok (.iconst 0, 1) := by decide +kernel
theorem dX6_again_2 : decode cX6_again 2 = .ok (.putfield 80, 3) := by decide +kernel
theorem dX6_again_5 : decode cX6_again 5 = .ok (.aload_n 0, 1) := by decide +kernel
theorem dX6_again_6 : decode cX6_again 6 = .ok (.iload_n 1, 1) := by decide +kernel
theorem dX6_again_7 : decode cX6_again 7 = .ok (.invokevirtual 91, 3) := by decide +kernel
theorem dX6_again_10 : decode cX6_again 10 = .ok (.ifCond .ne 5, 3) := by decide +kernel
theorem dX6_again_13 : decode cX6_again 13 = .ok (.iconst (-1), 1) := by decide +kernel
theorem dX6_again_14 : decode cX6_again 14 = .ok (.ireturn, 1) := by decide +kernel
theorem dX6_again_15 : decode cX6_again 15 = .ok (.aload_n 0, 1) := by decide +kernel
theorem dX6_again_16 : decode cX6_again 16 = .ok (.getfield 16, 3) := by decide +kernel
theorem dX6_again_19 : decode cX6_again 19 = .ok (.iload_n 1, 1) := by decide +kernel
theorem dX6_again_20 : decode cX6_again 20 = .ok (.iaload, 1) := by decide +kernel
theorem dX6_again_21 : decode cX6_again 21 = .ok (.iconst 2, 1) := by decide +kernel
theorem dX6_again_22 : decode cX6_again 22 = .ok (.iconst 4, 1) := by decide +kernel
theorem dX6_again_23 : decode cX6_again 23 = .ok (.invokestatic 87, 3) := by decide +kernel
theorem dX6_again_26 : decode cX6_again 26 = .ok (.ifCond .ne 6, 3) := by decide +kernel
theorem dX6_again_29 : decode cX6_again 29 = .ok (.bipush (-3), 2) := by decide +kernel
theorem dX6_again_31 : decode cX6_again 31 = .ok (.ireturn, 1) := by decide +kernel
theorem dX6_again_32 : decode cX6_again 32 = .ok (.aload_n 0, 1) := by decide +kernel
theorem dX6_again_33 : decode cX6_again 33 = .ok (.getfield 16, 3) := by decide +kernel
theorem dX6_again_36 : decode cX6_again 36 = .ok (.iload_n 1, 1) := by decide +kernel
theorem dX6_again_37 : decode cX6_again 37 = .ok (.iconst 0, 1) := by decide +kernel
theorem dX6_again_38 : decode cX6_again 38 = .ok (.iastore, 1) := by decide +kernel
theorem dX6_again_39 : decode cX6_again 39 = .ok (.aload_n 0, 1) := by decide +kernel
theorem dX6_again_40 : decode cX6_again 40 = .ok (.getfield 19, 3) := by decide +kernel
theorem dX6_again_43 : decode cX6_again 43 = .ok (.iload_n 1, 1) := by decide +kernel
theorem dX6_again_44 : decode cX6_again 44 = .ok (.iconst 0, 1) := by decide +kernel
theorem dX6_again_45 : decode cX6_again 45 = .ok (.iastore, 1) := by decide +kernel
theorem dX6_again_46 : decode cX6_again 46 = .ok (.aload_n 0, 1) := by decide +kernel
theorem dX6_again_47 : decode cX6_again 47 = .ok (.getfield 22, 3) := by decide +kernel
theorem dX6_again_50 : decode cX6_again 50 = .ok (.iload_n 1, 1) := by decide +kernel
theorem dX6_again_51 : decode cX6_again 51 = .ok (.iconst 0, 1) := by decide +kernel
theorem dX6_again_52 : decode cX6_again 52 = .ok (.iastore, 1) := by decide +kernel
theorem dX6_again_53 : decode cX6_again 53 = .ok (.aload_n 0, 1) := by decide +kernel
theorem dX6_again_54 : decode cX6_again 54 = .ok (.getfield 25, 3) := by decide +kernel
theorem dX6_again_57 : decode cX6_again 57 = .ok (.iload_n 1, 1) := by decide +kernel
theorem dX6_again_58 : decode cX6_again 58 = .ok (.iconst 0, 1) := by decide +kernel
theorem dX6_again_59 : decode cX6_again 59 = .ok (.iastore, 1) := by decide +kernel
theorem dX6_again_60 : decode cX6_again 60 = .ok (.aload_n 0, 1) := by decide +kernel
theorem dX6_again_61 : decode cX6_again 61 = .ok (.getfield 13, 3) := by decide +kernel
theorem dX6_again_64 : decode cX6_again 64 = .ok (.iload_n 1, 1) := by decide +kernel
theorem dX6_again_65 : decode cX6_again 65 = .ok (.iconst (-1), 1) := by decide +kernel
theorem dX6_again_66 : decode cX6_again 66 = .ok (.iastore, 1) := by decide +kernel
theorem dX6_again_67 : decode cX6_again 67 = .ok (.aload_n 0, 1) := by decide +kernel
theorem dX6_again_68 : decode cX6_again 68 = .ok (.getfield 35, 3) := by decide +kernel
theorem dX6_again_71 : decode cX6_again 71 = .ok (.iload_n 1, 1) := by decide +kernel
theorem dX6_again_72 : decode cX6_again 72 = .ok (.dup2, 1) := by decide +kernel
theorem dX6_again_73 : decode cX6_again 73 = .ok (.iaload, 1) := by decide +kernel
theorem dX6_again_74 : decode cX6_again 74 = .ok (.iconst 1, 1) := by decide +kernel
theorem dX6_again_75 : decode cX6_again 75 = .ok (.iadd, 1) := by decide +kernel
theorem dX6_again_76 : decode cX6_again 76 = .ok (.iastore, 1) := by decide +kernel
theorem dX6_again_77 : decode cX6_again 77 = .ok (.aload_n 0, 1) := by decide +kernel
theorem dX6_again_78 : decode cX6_again 78 = .ok (.getfield 35, 3) := by decide +kernel
theorem dX6_again_81 : decode cX6_again 81 = .ok (.iload_n 1, 1) := by decide +kernel
theorem dX6_again_82 : decode cX6_again 82 = .ok (.iaload, 1) := by decide +kernel
theorem dX6_again_83 : decode cX6_again 83 = .ok (.ireturn, 1) := by decide +kernel
set_option maxRecDepth 20000 in
theorem ggX6_close_X6_undo : GoodIn wsX6_close wsX6_undo := goodIn_r _ [8, 9, 10, 11, 12, 13, 3, 14, 15, 16, 7, 17, 18, 19, 20, 21, 22, 23, 24, 25, 26, 27, 28, 29, 30, 31, 32, 33, 34, 35, 36, 37, 38, 39, 40, 41, 42, 43, 44, 45, 46, 47, 48] (by decide +kernel) (by decide +kernel)
set_option maxRecDepth 20000 in
theorem gX6_close_X6_undo : GoodIn wsX6_close (wsV RX6 125 RX6 yX6_undo wsX6_undo) := goodIn_app (goodIn_of _ (by decide +kernel)) ggX6_close_X6_undo
theorem dX6_close_0 : decode cX6_close 0 = .ok (.aload_n 0, 1) := by decide +kernel
theorem dX6_close_1 : decode cX6_close 1 = .ok (.iconst 0, 1) := by decide +kernel
theorem dX6_close_2 : decode cX6_close 2 = .ok (.putfield 80, 3) := by decide +kernel
theorem dX6_close_5 : decode cX6_close 5 = .ok (.iconst 0, 1) := by decide +kernel
theorem dX6_close_6 : decode cX6_close 6 = .ok (.istore_n 1, 1) := by decide +kernel
theorem dX6_close_7 : decode cX6_close 7 = .ok (.aload_n 0, 1) := by decide +kernel
theorem dX6_close_8 : decode cX6_close 8 = .ok (.getfield 84, 3) := by decide +kernel
theorem dX6_close_11 : decode cX6_close 11 = .ok (.iconst 1, 1) := by decide +kernel
theorem dX6_close_12 : decode cX6_close 12 = .ok (.isub, 1) := by decide +kernel
theorem dX6_close_13 : decode cX6_close 13 = .ok (.istore_n 2, 1) := by decide +kernel
theorem dX6_close_14 : decode cX6_close 14 = .ok (.iload_n 2, 1) := by decide +kernel
theorem dX6_close_15 : decode cX6_close 15 = .ok (.ifCond .lt 30, 3) := by decide +kernel
theorem dX6_close_18 : decode cX6_close 18 = .ok (.aload_n 0, 1) := by decide +kernel
theorem dX6_close_19 : decode cX6_close 19 = .ok (.getfield 16, 3) := by decide +kernel
theorem dX6_close_22 : decode cX6_close 22 = .ok (.iload_n 2, 1) := by decide +kernel
theorem dX6_close_23 : decode cX6_close 23 = .ok (.iaload, 1) := by decide +kernel
theorem dX6_close_24 : decode cX6_close 24 = .ok (.ifCond .eq 6, 3) := by decide +kernel
theorem dX6_close_27 : decode cX6_close 27 = .ok (.goto 12, 3) := by decide +kernel
theorem dX6_close_30 : decode cX6_close 30 = .ok (.aload_n 0, 1) := by decide +kernel
theorem dX6_close_31 : decode cX6_close 31 = .ok (.iload_n 2, 1) := by decide +kernel
theorem dX6_close_32 : decode cX6_close 32 = .ok (.iconst 5, 1) := by decide +kernel
theorem dX6_close_33 : decode cX6_close 33 = .ok (.invokevirtual 125, 3) := by decide +kernel
theorem dX6_close_36 : decode cX6_close 36 = .ok (.iinc 1 1, 3) := by decide +kernel
theorem dX6_close_39 : decode cX6_close 39 = .ok (.iinc 2 (-1), 3) := by decide +kernel
theorem dX6_close_42 : decode cX6_close 42 = .ok (.goto (-28), 3) := by decide +kernel
theorem dX6_close_45 : decode cX6_close 45 = .ok (.iload_n 1, 1) := by decide +kernel
theorem dX6_close_46 : decode cX6_close 46 = .ok (.ireturn, 1) := by decide +kernel
set_option maxRecDepth 20000 in
theorem ggX6_state_X6_isWork : GoodIn wsX6_state wsX6_isWork := goodIn_r _ [11, 12, 13, 14, 10, 15, 16, 17, 18, 19, 20, 21, 22, 23, 24, 25, 26, 27, 28, 29, 30, 31, 32, 33, 34, 35, 36, 37, 38, 39, 40, 41, 42, 43, 44] (by decide +kernel) (by decide +kernel)
set_option maxRecDepth 20000 in
theorem gX6_state_X6_isWork : GoodIn wsX6_state (wsV RX6 91 RX6 yX6_isWork wsX6_isWork) := goodIn_app (goodIn_of _ (by decide +kernel)) ggX6_state_X6_isWork
theorem dX6_state_0 : decode cX6_state 0 = .ok (.aload_n 0, 1) := by decide +kernel
theorem dX6_state_1 : decode cX6_state 1 = .ok (.iconst 0, 1) := by decide +kernel
theorem dX6_state_2 : decode cX6_state 2 = .ok (.putfield 80, 3) := by decide +kernel
theorem dX6_state_5 : decode cX6_state 5 = .ok (.aload_n 0, 1) := by decide +kernel
theorem dX6_state_6 : decode cX6_state 6 = .ok (.iload_n 1, 1) := by decide +kernel
theorem dX6_state_7 : decode cX6_state 7 = .ok (.invokevirtual 91, 3) := by decide +kernel
theorem dX6_state_10 : decode cX6_state 10 = .ok (.ifCond .ne 5, 3) := by decide +kernel
theorem dX6_state_13 : decode cX6_state 13 = .ok (.iconst (-1), 1) := by decide +kernel
theorem dX6_state_14 : decode cX6_state 14 = .ok (.ireturn, 1) := by decide +kernel
theorem dX6_state_15 : decode cX6_state 15 = .ok (.iload_n 2, 1) := by decide +kernel
theorem dX6_state_16 : decode cX6_state 16 = .ok (.tableswitch 105 0 4 #[36, 43, 50, 57, 98], 36) := by decide +kernel
theorem dX6_state_52 : decode cX6_state 52 = .ok (.aload_n 0, 1) := by decide +kernel
theorem dX6_state_53 : decode cX6_state 53 = .ok (.getfield 16, 3) := by decide +kernel
theorem dX6_state_56 : decode cX6_state 56 = .ok (.iload_n 1, 1) := by decide +kernel
theorem dX6_state_57 : decode cX6_state 57 = .ok (.iaload, 1) := by decide +kernel
theorem dX6_state_58 : decode cX6_state 58 = .ok (.ireturn, 1) := by decide +kernel
theorem dX6_state_59 : decode cX6_state 59 = .ok (.aload_n 0, 1) := by decide +kernel
theorem dX6_state_60 : decode cX6_state 60 = .ok (.getfield 19, 3) := by decide +kernel
theorem dX6_state_63 : decode cX6_state 63 = .ok (.iload_n 1, 1) := by decide +kernel
theorem dX6_state_64 : decode cX6_state 64 = .ok (.iaload, 1) := by decide +kernel
theorem dX6_state_65 : decode cX6_state 65 = .ok (.ireturn, 1) := by decide +kernel
theorem dX6_state_66 : decode cX6_state 66 = .ok (.aload_n 0, 1) := by decide +kernel
theorem dX6_state_67 : decode cX6_state 67 = .ok (.getfield 22, 3) := by decide +kernel
theorem dX6_state_70 : decode cX6_state 70 = .ok (.iload_n 1, 1) := by decide +kernel
theorem dX6_state_71 : decode cX6_state 71 = .ok (.iaload, 1) := by decide +kernel
theorem dX6_state_72 : decode cX6_state 72 = .ok (.ireturn, 1) := by decide +kernel
theorem dX6_state_73 : decode cX6_state 73 = .ok (.iconst 0, 1) := by decide +kernel
theorem dX6_state_74 : decode cX6_state 74 = .ok (.istore_n 3, 1) := by decide +kernel
theorem dX6_state_75 : decode cX6_state 75 = .ok (.iconst 0, 1) := by decide +kernel
theorem dX6_state_76 : decode cX6_state 76 = .ok (.istore 4, 2) := by decide +kernel
theorem dX6_state_78 : decode cX6_state 78 = .ok (.iload 4, 2) := by decide +kernel
theorem dX6_state_80 : decode cX6_state 80 = .ok (.bipush 10, 2) := by decide +kernel
theorem dX6_state_82 : decode cX6_state 82 = .ok (.if_icmp .ge 30, 3) := by decide +kernel
theorem dX6_state_85 : decode cX6_state 85 = .ok (.iload_n 3, 1) := by decide +kernel
theorem dX6_state_86 : decode cX6_state 86 = .ok (.aload_n 0, 1) := by decide +kernel
theorem dX6_state_87 : decode cX6_state 87 = .ok (.getfield 56, 3) := by decide +kernel
theorem dX6_state_90 : decode cX6_state 90 = .ok (.iload 4, 2) := by decide +kernel
theorem dX6_state_92 : decode cX6_state 92 = .ok (.iaload, 1) := by decide +kernel
theorem dX6_state_93 : decode cX6_state 93 = .ok (.iload_n 1, 1) := by decide +kernel
theorem dX6_state_94 : decode cX6_state 94 = .ok (.iconst 1, 1) := by decide +kernel
theorem dX6_state_95 : decode cX6_state 95 = .ok (.iadd, 1) := by decide +kernel
theorem dX6_state_96 : decode cX6_state 96 = .ok (.if_icmp .ne 7, 3) := by decide +kernel
theorem dX6_state_99 : decode cX6_state 99 = .ok (.iconst 1, 1) := by decide +kernel
theorem dX6_state_100 : decode cX6_state 100 = .ok (.goto 4, 3) := by decide +kernel
theorem dX6_state_103 : decode cX6_state 103 = .ok (.iconst 0, 1) := by decide +kernel
theorem dX6_state_104 : decode cX6_state 104 = .ok (.iadd, 1) := by decide +kernel
theorem dX6_state_105 : decode cX6_state 105 = .ok (.istore_n 3, 1) := by decide +kernel
theorem dX6_state_106 : decode cX6_state 106 = .ok (.iinc 4 1, 3) := by decide +kernel
theorem dX6_state_109 : decode cX6_state 109 = .ok (.goto (-31), 3) := by decide +kernel
theorem dX6_state_112 : decode cX6_state 112 = .ok (.iload_n 3, 1) := by decide +kernel
theorem dX6_state_113 : decode cX6_state 113 = .ok (.ireturn, 1) := by decide +kernel
theorem dX6_state_114 : decode cX6_state 114 = .ok (.aload_n 0, 1) := by decide +kernel
theorem dX6_state_115 : decode cX6_state 115 = .ok (.getfield 32, 3) := by decide +kernel
theorem dX6_state_118 : decode cX6_state 118 = .ok (.iload_n 1, 1) := by decide +kernel
theorem dX6_state_119 : decode cX6_state 119 = .ok (.iaload, 1) := by decide +kernel
theorem dX6_state_120 : decode cX6_state 120 = .ok (.ireturn, 1) := by decide +kernel
theorem dX6_state_121 : decode cX6_state 121 = .ok (.iconst (-1), 1) := by decide +kernel
theorem dX6_state_122 : decode cX6_state 122 = .ok (.ireturn, 1) := by decide +kernel
set_option maxRecDepth 20000 in
theorem ggX6_has_X6_in : GoodIn wsX6_has wsX6_in := goodIn_r _ [6] (by decide +kernel) (by decide +kernel)
set_option maxRecDepth 20000 in
theorem gX6_has_X6_in : GoodIn wsX6_has (va_wsS RX6 87 yX6_in wsX6_in) := goodIn_app (goodIn_of _ (by decide +kernel)) ggX6_has_X6_in
theorem dX6_has_0 : decode cX6_has 0 = .ok (.aload_n 0, 1) := by decide +kernel
theorem dX6_has_1 : decode cX6_has 1 = .ok (.iconst 0, 1) := by decide +kernel
theorem dX6_has_2 : decode cX6_has 2 = .ok (.putfield 80, 3) := by decide +kernel
theorem dX6_has_5 : decode cX6_has 5 = .ok (.iload_n 1, 1) := by decide +kernel
theorem dX6_has_6 : decode cX6_has 6 = .ok (.iconst 0, 1) := by decide +kernel
theorem dX6_has_7 : decode cX6_has 7 = .ok (.bipush 9, 2) := by decide +kernel
theorem dX6_has_9 : decode cX6_has 9 = .ok (.invokestatic 87, 3) := by decide +kernel
theorem dX6_has_12 : decode cX6_has 12 = .ok (.ifCond .eq 14, 3) := by decide +kernel
theorem dX6_has_15 : decode cX6_has 15 = .ok (.aload_n 0, 1) := by decide +kernel
theorem dX6_has_16 : decode cX6_has 16 = .ok (.getfield 56, 3) := by decide +kernel
theorem dX6_has_19 : decode cX6_has 19 = .ok (.iload_n 1, 1) := by decide +kernel
theorem dX6_has_20 : decode cX6_has 20 = .ok (.iaload, 1) := by decide +kernel
theorem dX6_has_21 : decode cX6_has 21 = .ok (.iconst 1, 1) := by decide +kernel
theorem dX6_has_22 : decode cX6_has 22 = .ok (.isub, 1) := by decide +kernel
theorem dX6_has_23 : decode cX6_has 23 = .ok (.goto 4, 3) := by decide +kernel
theorem dX6_has_26 : decode cX6_has 26 = .ok (.iconst (-1), 1) := by decide +kernel
theorem dX6_has_27 : decode cX6_has 27 = .ok (.ireturn, 1) := by decide +kernel
set_option maxRecDepth 20000 in
theorem ggX6_line_X6_in : GoodIn wsX6_line wsX6_in := goodIn_r _ [7] (by decide +kernel) (by decide +kernel)
set_option maxRecDepth 20000 in
theorem gX6_line_X6_in : GoodIn wsX6_line (va_wsS RX6 87 yX6_in wsX6_in) := goodIn_app (goodIn_of _ (by decide +kernel)) ggX6_line_X6_in
set_option maxRecDepth 20000 in
theorem ggX6_line_X6_ahead : GoodIn wsX6_line wsX6_ahead := goodIn_r _ [11, 2, 3, 12, 13, 14, 15, 16, 17, 18, 19, 20, 21, 22, 23, 24, 25, 26, 27, 28, 29, 30, 31, 32, 33, 34, 35, 36, 37, 38, 39, 40, 41] (by decide +kernel) (by decide +kernel)
set_option maxRecDepth 20000 in
theorem gX6_line_X6_ahead : GoodIn wsX6_line (wsV RX6 102 RX6 yX6_ahead wsX6_ahead) := goodIn_app (goodIn_of _ (by decide +kernel)) ggX6_line_X6_ahead
theorem dX6_line_0 : decode cX6_line 0 = .ok (.aload_n 0, 1) := by decide +kernel
theorem dX6_line_1 : decode cX6_line 1 = .ok (.iconst 0, 1) := by decide +kernel
theorem dX6_line_2 : decode cX6_line 2 = .ok (.putfield 80, 3) := by decide +kernel
theorem dX6_line_5 : decode cX6_line 5 = .ok (.iconst 0, 1) := by decide +kernel
theorem dX6_line_6 : decode cX6_line 6 = .ok (.istore_n 3, 1) := by decide +kernel
theorem dX6_line_7 : decode cX6_line 7 = .ok (.iload_n 3, 1) := by decide +kernel
theorem dX6_line_8 : decode cX6_line 8 = .ok (.aload_n 0, 1) := by decide +kernel
theorem dX6_line_9 : decode cX6_line 9 = .ok (.getfield 84, 3) := by decide +kernel
theorem dX6_line_12 : decode cX6_line 12 = .ok (.if_icmp .ge 43, 3) := by decide +kernel
theorem dX6_line_15 : decode cX6_line 15 = .ok (.iload_n 1, 1) := by decide +kernel
theorem dX6_line_16 : decode cX6_line 16 = .ok (.iconst 0, 1) := by decide +kernel
theorem dX6_line_17 : decode cX6_line 17 = .ok (.bipush 9, 2) := by decide +kernel
theorem dX6_line_19 : decode cX6_line 19 = .ok (.invokestatic 87, 3) := by decide +kernel
theorem dX6_line_22 : decode cX6_line 22 = .ok (.ifCond .eq 33, 3) := by decide +kernel
theorem dX6_line_25 : decode cX6_line 25 = .ok (.aload_n 0, 1) := by decide +kernel
theorem dX6_line_26 : decode cX6_line 26 = .ok (.getfield 38, 3) := by decide +kernel
theorem dX6_line_29 : decode cX6_line 29 = .ok (.iload_n 3, 1) := by decide +kernel
theorem dX6_line_30 : decode cX6_line 30 = .ok (.iaload, 1) := by decide +kernel
theorem dX6_line_31 : decode cX6_line 31 = .ok (.iload_n 1, 1) := by decide +kernel
theorem dX6_line_32 : decode cX6_line 32 = .ok (.iconst 1, 1) := by decide +kernel
theorem dX6_line_33 : decode cX6_line 33 = .ok (.iadd, 1) := by decide +kernel
theorem dX6_line_34 : decode cX6_line 34 = .ok (.if_icmp .ne 15, 3) := by decide +kernel
