set_option maxRecDepth 20000 in
theorem gX6_loses_X6_in : GoodIn wsX6_loses (va_wsS RX6 87 yX6_in wsX6_in) := goodIn_app (goodIn_of _ (by decide +kernel)) ggX6_loses_X6_in
theorem dX6_loses_0 : decode cX6_loses 0 = .ok (.aload_n 0, 1) := by decide +kernel
theorem dX6_loses_1 : decode cX6_loses 1 = .ok (.iconst 0, 1) := by decide +kernel
theorem dX6_loses_2 : decode cX6_loses 2 = .ok (.putfield 80, 3) := by decide +kernel
theorem dX6_loses_5 : decode cX6_loses 5 = .ok (.iload_n 1, 1) := by decide +kernel
theorem dX6_loses_6 : decode cX6_loses 6 = .ok (.iconst 0, 1) := by decide +kernel
theorem dX6_loses_7 : decode cX6_loses 7 = .ok (.bipush 100, 2) := by decide +kernel
theorem dX6_loses_9 : decode cX6_loses 9 = .ok (.invokestatic 87, 3) := by decide +kernel
theorem dX6_loses_12 : decode cX6_loses 12 = .ok (.ifCond .ne 6, 3) := by decide +kernel
theorem dX6_loses_15 : decode cX6_loses 15 = .ok (.bipush (-2), 2) := by decide +kernel
theorem dX6_loses_17 : decode cX6_loses 17 = .ok (.ireturn, 1) := by decide +kernel
theorem dX6_loses_18 : decode cX6_loses 18 = .ok (.aload_n 0, 1) := by decide +kernel
theorem dX6_loses_19 : decode cX6_loses 19 = .ok (.iload_n 1, 1) := by decide +kernel
theorem dX6_loses_20 : decode cX6_loses 20 = .ok (.putfield 99, 3) := by decide +kernel
theorem dX6_loses_23 : decode cX6_loses 23 = .ok (.iconst 1, 1) := by decide +kernel
theorem dX6_loses_24 : decode cX6_loses 24 = .ok (.ireturn, 1) := by decide +kernel
theorem dX6_ahead_0 : decode cX6_ahead 0 = .ok (.iconst 0, 1) := by decide +kernel
theorem dX6_ahead_1 : decode cX6_ahead 1 = .ok (.istore_n 3, 1) := by decide +kernel
theorem dX6_ahead_2 : decode cX6_ahead 2 = .ok (.iconst 0, 1) := by decide +kernel
theorem dX6_ahead_3 : decode cX6_ahead 3 = .ok (.istore 4, 2) := by decide +kernel
theorem dX6_ahead_5 : decode cX6_ahead 5 = .ok (.iload 4, 2) := by decide +kernel
theorem dX6_ahead_7 : decode cX6_ahead 7 = .ok (.aload_n 0, 1) := by decide +kernel
theorem dX6_ahead_8 : decode cX6_ahead 8 = .ok (.getfield 84, 3) := by decide +kernel
theorem dX6_ahead_11 : decode cX6_ahead 11 = .ok (.if_icmp .ge 64, 3) := by decide +kernel
theorem dX6_ahead_14 : decode cX6_ahead 14 = .ok (.iload_n 3, 1) := by decide +kernel
theorem dX6_ahead_15 : decode cX6_ahead 15 = .ok (.iload 4, 2) := by decide +kernel
theorem dX6_ahead_17 : decode cX6_ahead 17 = .ok (.iload_n 2, 1) := by decide +kernel
theorem dX6_ahead_18 : decode cX6_ahead 18 = .ok (.if_icmp .eq 48, 3) := by decide +kernel
theorem dX6_ahead_21 : decode cX6_ahead 21 = .ok (.aload_n 0, 1) := by decide +kernel
theorem dX6_ahead_22 : decode cX6_ahead 22 = .ok (.getfield 38, 3) := by decide +kernel
theorem dX6_ahead_25 : decode cX6_ahead 25 = .ok (.iload 4, 2) := by decide +kernel
theorem dX6_ahead_27 : decode cX6_ahead 27 = .ok (.iaload, 1) := by decide +kernel
theorem dX6_ahead_28 : decode cX6_ahead 28 = .ok (.iload_n 1, 1) := by decide +kernel
theorem dX6_ahead_29 : decode cX6_ahead 29 = .ok (.iconst 1, 1) := by decide +kernel
theorem dX6_ahead_30 : decode cX6_ahead 30 = .ok (.iadd, 1) := by decide +kernel
theorem dX6_ahead_31 : decode cX6_ahead 31 = .ok (.if_icmp .ne 35, 3) := by decide +kernel
theorem dX6_ahead_34 : decode cX6_ahead 34 = .ok (.aload_n 0, 1) := by decide +kernel
theorem dX6_ahead_35 : decode cX6_ahead 35 = .ok (.getfield 38, 3) := by decide +kernel
theorem dX6_ahead_38 : decode cX6_ahead 38 = .ok (.iload_n 2, 1) := by decide +kernel
theorem dX6_ahead_39 : decode cX6_ahead 39 = .ok (.iaload, 1) := by decide +kernel
theorem dX6_ahead_40 : decode cX6_ahead 40 = .ok (.iload_n 1, 1) := by decide +kernel
theorem dX6_ahead_41 : decode cX6_ahead 41 = .ok (.iconst 1, 1) := by decide +kernel
theorem dX6_ahead_42 : decode cX6_ahead 42 = .ok (.iadd, 1) := by decide +kernel
theorem dX6_ahead_43 : decode cX6_ahead 43 = .ok (.if_icmp .ne 19, 3) := by decide +kernel
theorem dX6_ahead_46 : decode cX6_ahead 46 = .ok (.aload_n 0, 1) := by decide +kernel
theorem dX6_ahead_47 : decode cX6_ahead 47 = .ok (.getfield 41, 3) := by decide +kernel
theorem dX6_ahead_50 : decode cX6_ahead 50 = .ok (.iload 4, 2) := by decide +kernel
theorem dX6_ahead_52 : decode cX6_ahead 52 = .ok (.iaload, 1) := by decide +kernel
theorem dX6_ahead_53 : decode cX6_ahead 53 = .ok (.aload_n 0, 1) := by decide +kernel
theorem dX6_ahead_54 : decode cX6_ahead 54 = .ok (.getfield 41, 3) := by decide +kernel
theorem dX6_ahead_57 : decode cX6_ahead 57 = .ok (.iload_n 2, 1) := by decide +kernel
theorem dX6_ahead_58 : decode cX6_ahead 58 = .ok (.iaload, 1) := by decide +kernel
theorem dX6_ahead_59 : decode cX6_ahead 59 = .ok (.if_icmp .ge 7, 3) := by decide +kernel
theorem dX6_ahead_62 : decode cX6_ahead 62 = .ok (.iconst 1, 1) := by decide +kernel
theorem dX6_ahead_63 : decode cX6_ahead 63 = .ok (.goto 4, 3) := by decide +kernel
theorem dX6_ahead_66 : decode cX6_ahead 66 = .ok (.iconst 0, 1) := by decide +kernel
theorem dX6_ahead_67 : decode cX6_ahead 67 = .ok (.iadd, 1) := by decide +kernel
theorem dX6_ahead_68 : decode cX6_ahead 68 = .ok (.istore_n 3, 1) := by decide +kernel
theorem dX6_ahead_69 : decode cX6_ahead 69 = .ok (.iinc 4 1, 3) := by decide +kernel
theorem dX6_ahead_72 : decode cX6_ahead 72 = .ok (.goto (-67), 3) := by decide +kernel
theorem dX6_ahead_75 : decode cX6_ahead 75 = .ok (.iload_n 3, 1) := by decide +kernel
theorem dX6_ahead_76 : decode cX6_ahead 76 = .ok (.ireturn, 1) := by decide +kernel
set_option maxRecDepth 20000 in
theorem ggX6_takes_X6_ahead : GoodIn wsX6_takes wsX6_ahead := goodIn_r _ [10, 11, 2, 4, 12, 13, 14, 15, 16, 17, 18, 19, 20, 21, 22, 23, 24, 25, 26, 27, 28, 29, 30, 31, 32, 33, 34, 35, 36, 37, 38, 39, 40] (by decide +kernel) (by decide +kernel)
set_option maxRecDepth 20000 in
theorem gX6_takes_X6_ahead : GoodIn wsX6_takes (wsV RX6 102 RX6 yX6_ahead wsX6_ahead) := goodIn_app (goodIn_of _ (by decide +kernel)) ggX6_takes_X6_ahead
theorem dX6_takes_0 : decode cX6_takes 0 = .ok (.aload_n 0, 1) := by decide +kernel
theorem dX6_takes_1 : decode cX6_takes 1 = .ok (.getfield 56, 3) := by decide +kernel
theorem dX6_takes_4 : decode cX6_takes 4 = .ok (.iload_n 2, 1) := by decide +kernel
theorem dX6_takes_5 : decode cX6_takes 5 = .ok (.iaload, 1) := by decide +kernel
theorem dX6_takes_6 : decode cX6_takes 6 = .ok (.iload_n 1, 1) := by decide +kernel
theorem dX6_takes_7 : decode cX6_takes 7 = .ok (.iconst 1, 1) := by decide +kernel
theorem dX6_takes_8 : decode cX6_takes 8 = .ok (.iadd, 1) := by decide +kernel
theorem dX6_takes_9 : decode cX6_takes 9 = .ok (.if_icmp .eq 21, 3) := by decide +kernel
theorem dX6_takes_12 : decode cX6_takes 12 = .ok (.aload_n 0, 1) := by decide +kernel
theorem dX6_takes_13 : decode cX6_takes 13 = .ok (.getfield 56, 3) := by decide +kernel
theorem dX6_takes_16 : decode cX6_takes 16 = .ok (.iload_n 2, 1) := by decide +kernel
theorem dX6_takes_17 : decode cX6_takes 17 = .ok (.iaload, 1) := by decide +kernel
theorem dX6_takes_18 : decode cX6_takes 18 = .ok (.ifCond .ne 40, 3) := by decide +kernel
theorem dX6_takes_21 : decode cX6_takes 21 = .ok (.aload_n 0, 1) := by decide +kernel
theorem dX6_takes_22 : decode cX6_takes 22 = .ok (.iload_n 2, 1) := by decide +kernel
theorem dX6_takes_23 : decode cX6_takes 23 = .ok (.iload_n 1, 1) := by decide +kernel
theorem dX6_takes_24 : decode cX6_takes 24 = .ok (.invokevirtual 102, 3) := by decide +kernel
theorem dX6_takes_27 : decode cX6_takes 27 = .ok (.ifCond .ne 31, 3) := by decide +kernel
theorem dX6_takes_30 : decode cX6_takes 30 = .ok (.aload_n 0, 1) := by decide +kernel
theorem dX6_takes_31 : decode cX6_takes 31 = .ok (.getfield 56, 3) := by decide +kernel
theorem dX6_takes_34 : decode cX6_takes 34 = .ok (.iload_n 2, 1) := by decide +kernel
theorem dX6_takes_35 : decode cX6_takes 35 = .ok (.iload_n 1, 1) := by decide +kernel
theorem dX6_takes_36 : decode cX6_takes 36 = .ok (.iconst 1, 1) := by decide +kernel
theorem dX6_takes_37 : decode cX6_takes 37 = .ok (.iadd, 1) := by decide +kernel
theorem dX6_takes_38 : decode cX6_takes 38 = .ok (.iastore, 1) := by decide +kernel
theorem dX6_takes_39 : decode cX6_takes 39 = .ok (.aload_n 0, 1) := by decide +kernel
theorem dX6_takes_40 : decode cX6_takes 40 = .ok (.getfield 38, 3) := by decide +kernel
theorem dX6_takes_43 : decode cX6_takes 43 = .ok (.iload_n 1, 1) := by decide +kernel
theorem dX6_takes_44 : decode cX6_takes 44 = .ok (.iconst 0, 1) := by decide +kernel
theorem dX6_takes_45 : decode cX6_takes 45 = .ok (.iastore, 1) := by decide +kernel
theorem dX6_takes_46 : decode cX6_takes 46 = .ok (.aload_n 0, 1) := by decide +kernel
theorem dX6_takes_47 : decode cX6_takes 47 = .ok (.getfield 22, 3) := by decide +kernel
theorem dX6_takes_50 : decode cX6_takes 50 = .ok (.iload_n 1, 1) := by decide +kernel
theorem dX6_takes_51 : decode cX6_takes 51 = .ok (.dup2, 1) := by decide +kernel
theorem dX6_takes_52 : decode cX6_takes 52 = .ok (.iaload, 1) := by decide +kernel
theorem dX6_takes_53 : decode cX6_takes 53 = .ok (.iconst 1, 1) := by decide +kernel
theorem dX6_takes_54 : decode cX6_takes 54 = .ok (.iadd, 1) := by decide +kernel
theorem dX6_takes_55 : decode cX6_takes 55 = .ok (.iastore, 1) := by decide +kernel
theorem dX6_takes_56 : decode cX6_takes 56 = .ok (.iconst 1, 1) := by decide +kernel
theorem dX6_takes_57 : decode cX6_takes 57 = .ok (.ireturn, 1) := by decide +kernel
theorem dX6_takes_58 : decode cX6_takes 58 = .ok (.aload_n 0, 1) := by decide +kernel
theorem dX6_takes_59 : decode cX6_takes 59 = .ok (.getfield 38, 3) := by decide +kernel
theorem dX6_takes_62 : decode cX6_takes 62 = .ok (.iload_n 1, 1) := by decide +kernel
theorem dX6_takes_63 : decode cX6_takes 63 = .ok (.iaload, 1) := by decide +kernel
theorem dX6_takes_64 : decode cX6_takes 64 = .ok (.iload_n 2, 1) := by decide +kernel
theorem dX6_takes_65 : decode cX6_takes 65 = .ok (.iconst 1, 1) := by decide +kernel
theorem dX6_takes_66 : decode cX6_takes 66 = .ok (.iadd, 1) := by decide +kernel
theorem dX6_takes_67 : decode cX6_takes 67 = .ok (.if_icmp .eq 32, 3) := by decide +kernel
theorem dX6_takes_70 : decode cX6_takes 70 = .ok (.aload_n 0, 1) := by decide +kernel
theorem dX6_takes_71 : decode cX6_takes 71 = .ok (.getfield 38, 3) := by decide +kernel
theorem dX6_takes_74 : decode cX6_takes 74 = .ok (.iload_n 1, 1) := by decide +kernel
theorem dX6_takes_75 : decode cX6_takes 75 = .ok (.iload_n 2, 1) := by decide +kernel
theorem dX6_takes_76 : decode cX6_takes 76 = .ok (.iconst 1, 1) := by decide +kernel
theorem dX6_takes_77 : decode cX6_takes 77 = .ok (.iadd, 1) := by decide +kernel
theorem dX6_takes_78 : decode cX6_takes 78 = .ok (.iastore, 1) := by decide +kernel
theorem dX6_takes_79 : decode cX6_takes 79 = .ok (.aload_n 0, 1) := by decide +kernel
theorem dX6_takes_80 : decode cX6_takes 80 = .ok (.getfield 41, 3) := by decide +kernel
theorem dX6_takes_83 : decode cX6_takes 83 = .ok (.iload_n 1, 1) := by decide +kernel
theorem dX6_takes_84 : decode cX6_takes 84 = .ok (.aload_n 0, 1) := by decide +kernel
theorem dX6_takes_85 : decode cX6_takes 85 = .ok (.getfield 106, 3) := by decide +kernel
theorem dX6_takes_88 : decode cX6_takes 88 = .ok (.iastore, 1) := by decide +kernel
theorem dX6_takes_89 : decode cX6_takes 89 = .ok (.aload_n 0, 1) := by decide +kernel
theorem dX6_takes_90 : decode cX6_takes 90 = .ok (.dup, 1) := by decide +kernel
theorem dX6_takes_91 : decode cX6_takes 91 = .ok (.getfield 106, 3) := by decide +kernel
theorem dX6_takes_94 : decode cX6_takes 94 = .ok (.iconst 1, 1) := by decide +kernel
theorem dX6_takes_95 : decode cX6_takes 95 = .ok (.iadd, 1) := by decide +kernel
theorem dX6_takes_96 : decode cX6_takes 96 = .ok (.putfield 106, 3) := by decide +kernel
theorem dX6_takes_99 : decode cX6_takes 99 = .ok (.iconst 3, 1) := by decide +kernel
theorem dX6_takes_100 : decode cX6_takes 100 = .ok (.ireturn, 1) := by decide +kernel
theorem dX6_hears_0 : decode cX6_hears 0 = .ok (.bipush 12, 2) := by decide +kernel
theorem dX6_hears_2 : decode cX6_hears 2 = .ok (.iload_n 2, 1) := by decide +kernel
theorem dX6_hears_3 : decode cX6_hears 3 = .ok (.imul, 1) := by decide +kernel
theorem dX6_hears_4 : decode cX6_hears 4 = .ok (.iload_n 1, 1) := by decide +kernel
theorem dX6_hears_5 : decode cX6_hears 5 = .ok (.iadd, 1) := by decide +kernel
theorem dX6_hears_6 : decode cX6_hears 6 = .ok (.istore_n 3, 1) := by decide +kernel
theorem dX6_hears_7 : decode cX6_hears 7 = .ok (.aload_n 0, 1) := by decide +kernel
theorem dX6_hears_8 : decode cX6_hears 8 = .ok (.getfield 62, 3) := by decide +kernel
theorem dX6_hears_11 : decode cX6_hears 11 = .ok (.iload_n 3, 1) := by decide +kernel
theorem dX6_hears_12 : decode cX6_hears 12 = .ok (.iaload, 1) := by decide +kernel
theorem dX6_hears_13 : decode cX6_hears 13 = .ok (.ifCond .le 25, 3) := by decide +kernel
theorem dX6_hears_16 : decode cX6_hears 16 = .ok (.aload_n 0, 1) := by decide +kernel
theorem dX6_hears_17 : decode cX6_hears 17 = .ok (.getfield 62, 3) := by decide +kernel
theorem dX6_hears_20 : decode cX6_hears 20 = .ok (.iload_n 3, 1) := by decide +kernel
theorem dX6_hears_21 : decode cX6_hears 21 = .ok (.dup2, 1) := by decide +kernel
theorem dX6_hears_22 : decode cX6_hears 22 = .ok (.iaload, 1) := by decide +kernel
theorem dX6_hears_23 : decode cX6_hears 23 = .ok (.iconst 1, 1) := by decide +kernel
theorem dX6_hears_24 : decode cX6_hears 24 = .ok (.isub, 1) := by decide +kernel
theorem dX6_hears_25 : decode cX6_hears 25 = .ok (.iastore, 1) := by decide +kernel
theorem dX6_hears_26 : decode cX6_hears 26 = .ok (.aload_n 0, 1) := by decide +kernel
theorem dX6_hears_27 : decode cX6_hears 27 = .ok (.getfield 22, 3) := by decide +kernel
theorem dX6_hears_30 : decode cX6_hears 30 = .ok (.iload_n 1, 1) := by decide +kernel
theorem dX6_hears_31 : decode cX6_hears 31 = .ok (.dup2, 1) := by decide +kernel
theorem dX6_hears_32 : decode cX6_hears 32 = .ok (.iaload, 1) := by decide +kernel
theorem dX6_hears_33 : decode cX6_hears 33 = .ok (.iconst 1, 1) := by decide +kernel
theorem dX6_hears_34 : decode cX6_hears 34 = .ok (.iadd, 1) := by decide +kernel
theorem dX6_hears_35 : decode cX6_hears 35 = .ok (.iastore, 1) := by decide +kernel
theorem dX6_hears_36 : decode cX6_hears 36 = .ok (.iconst 1, 1) := by decide +kernel
theorem dX6_hears_37 : decode cX6_hears 37 = .ok (.ireturn, 1) := by decide +kernel
theorem dX6_hears_38 : decode cX6_hears 38 = .ok (.aload_n 0, 1) := by decide +kernel
theorem dX6_hears_39 : decode cX6_hears 39 = .ok (.getfield 65, 3) := by decide +kernel
theorem dX6_hears_42 : decode cX6_hears 42 = .ok (.iload_n 3, 1) := by decide +kernel
theorem dX6_hears_43 : decode cX6_hears 43 = .ok (.iaload, 1) := by decide +kernel
theorem dX6_hears_44 : decode cX6_hears 44 = .ok (.ifCond .ne 5, 3) := by decide +kernel
theorem dX6_hears_47 : decode cX6_hears 47 = .ok (.iconst 4, 1) := by decide +kernel
theorem dX6_hears_48 : decode cX6_hears 48 = .ok (.ireturn, 1) := by decide +kernel
theorem dX6_hears_49 : decode cX6_hears 49 = .ok (.aload_n 0, 1) := by decide +kernel
theorem dX6_hears_50 : decode cX6_hears 50 = .ok (.getfield 65, 3) := by decide +kernel
theorem dX6_hears_53 : decode cX6_hears 53 = .ok (.iload_n 3, 1) := by decide +kernel
theorem dX6_hears_54 : decode cX6_hears 54 = .ok (.dup2, 1) := by decide +kernel
theorem dX6_hears_55 : decode cX6_hears 55 = .ok (.iaload, 1) := by decide +kernel
theorem dX6_hears_56 : decode cX6_hears 56 = .ok (.iconst 1, 1) := by decide +kernel
theorem dX6_hears_57 : decode cX6_hears 57 = .ok (.isub, 1) := by decide +kernel
theorem dX6_hears_58 : decode cX6_hears 58 = .ok (.iastore, 1) := by decide +kernel
theorem dX6_hears_59 : decode cX6_hears 59 = .ok (.aload_n 0, 1) := by decide +kernel
theorem dX6_hears_60 : decode cX6_hears 60 = .ok (.getfield 62, 3) := by decide +kernel
theorem dX6_hears_63 : decode cX6_hears 63 = .ok (.iload_n 3, 1) := by decide +kernel
theorem dX6_hears_64 : decode cX6_hears 64 = .ok (.dup2, 1) := by decide +kernel
theorem dX6_hears_65 : decode cX6_hears 65 = .ok (.iaload, 1) := by decide +kernel
theorem dX6_hears_66 : decode cX6_hears 66 = .ok (.iconst 1, 1) := by decide +kernel
theorem dX6_hears_67 : decode cX6_hears 67 = .ok (.iadd, 1) := by decide +kernel
theorem dX6_hears_68 : decode cX6_hears 68 = .ok (.iastore, 1) := by decide +kernel
theorem dX6_hears_69 : decode cX6_hears 69 = .ok (.aload_n 0, 1) := by decide +kernel
theorem dX6_hears_70 : decode cX6_hears 70 = .ok (.getfield 32, 3) := by decide +kernel
theorem dX6_hears_73 : decode cX6_hears 73 = .ok (.iload_n 1, 1) := by decide +kernel
theorem dX6_hears_74 : decode cX6_hears 74 = .ok (.dup2, 1) := by decide +kernel
theorem dX6_hears_75 : decode cX6_hears 75 = .ok (.iaload, 1) := by decide +kernel
theorem dX6_hears_76 : decode cX6_hears 76 = .ok (.iconst 1, 1) := by decide +kernel
theorem dX6_hears_77 : decode cX6_hears 77 = .ok (.iadd, 1) := by decide +kernel
theorem dX6_hears_78 : decode cX6_hears 78 = .ok (.iastore, 1) := by decide +kernel
theorem dX6_hears_79 : decode cX6_hears 79 = .ok (.iconst 5, 1) := by decide +kernel
theorem dX6_hears_80 : decode cX6_hears 80 = .ok (.ireturn, 1) := by decide +kernel
theorem dX6_frees_0 : decode cX6_frees 0 = .ok (.iconst 0, 1) := by decide +kernel
theorem dX6_frees_1 : decode cX6_frees 1 = .ok (.istore_n 2, 1) := by decide +kernel
theorem dX6_frees_2 : decode cX6_frees 2 = .ok (.iload_n 2, 1) := by decide +kernel
theorem dX6_frees_3 : decode cX6_frees 3 = .ok (.bipush 10, 2) := by decide +kernel
theorem dX6_frees_5 : decode cX6_frees 5 = .ok (.if_icmp .ge 37, 3) := by decide +kernel
theorem dX6_frees_8 : decode cX6_frees 8 = .ok (.aload_n 0, 1) := by decide +kernel
theorem dX6_frees_9 : decode cX6_frees 9 = .ok (.getfield 56, 3) := by decide +kernel
theorem dX6_frees_12 : decode cX6_frees 12 = .ok (.iload_n 2, 1) := by decide +kernel
theorem dX6_frees_13 : decode cX6_frees 13 = .ok (.aload_n 0, 1) := by decide +kernel
theorem dX6_frees_14 : decode cX6_frees 14 = .ok (.getfield 56, 3) := by decide +kernel
theorem dX6_frees_17 : decode cX6_frees 17 = .ok (.iload_n 2, 1) := by decide +kernel
theorem dX6_frees_18 : decode cX6_frees 18 = .ok (.iaload, 1) := by decide +kernel
theorem dX6_frees_19 : decode cX6_frees 19 = .ok (.iload_n 1, 1) := by decide +kernel
theorem dX6_frees_20 : decode cX6_frees 20 = .ok (.iconst 1, 1) := by decide +kernel
theorem dX6_frees_21 : decode cX6_frees 21 = .ok (.iadd, 1) := by decide +kernel
theorem dX6_frees_22 : decode cX6_frees 22 = .ok (.if_icmp .ne 7, 3) := by decide +kernel
theorem dX6_frees_25 : decode cX6_frees 25 = .ok (.iconst 0, 1) := by decide +kernel
theorem dX6_frees_26 : decode cX6_frees 26 = .ok (.goto 9, 3) := by decide +kernel
theorem dX6_frees_29 : decode cX6_frees 29 = .ok (.aload_n 0, 1) := by decide +kernel
theorem dX6_frees_30 : decode cX6_frees 30 = .ok (.getfield 56, 3) := by decide +kernel
theorem dX6_frees_33 : decode cX6_frees 33 = .ok (.iload_n 2, 1) := by decide +kernel
theorem dX6_frees_34 : decode cX6_frees 34 = .ok (.iaload, 1) := by decide +kernel
theorem dX6_frees_35 : decode cX6_frees 35 = .ok (.iastore, 1) := by decide +kernel
theorem dX6_frees_36 : decode cX6_frees 36 = .ok (.iinc 2 1, 3) := by decide +kernel
theorem dX6_frees_39 : decode cX6_frees 39 = .ok (.goto (-37), 3) := by decide +kernel
theorem dX6_frees_42 : decode cX6_frees 42 = .ok (.aload_n 0, 1) := by decide +kernel
theorem dX6_frees_43 : decode cX6_frees 43 = .ok (.getfield 38, 3) := by decide +kernel
theorem dX6_frees_46 : decode cX6_frees 46 = .ok (.iload_n 1, 1) := by decide +kernel
theorem dX6_frees_47 : decode cX6_frees 47 = .ok (.iconst 0, 1) := by decide +kernel
theorem dX6_frees_48 : decode cX6_frees 48 = .ok (.iastore, 1) := by decide +kernel
theorem dX6_frees_49 : decode cX6_frees 49 = .ok (.iconst 0, 1) := by decide +kernel
theorem dX6_frees_50 : decode cX6_frees 50 = .ok (.istore_n 2, 1) := by decide +kernel
theorem dX6_frees_51 : decode cX6_frees 51 = .ok (.iconst 0, 1) := by decide +kernel
theorem dX6_frees_52 : decode cX6_frees 52 = .ok (.istore_n 3, 1) := by decide +kernel
theorem dX6_frees_53 : decode cX6_frees 53 = .ok (.iload_n 3, 1) := by decide +kernel
theorem dX6_frees_54 : decode cX6_frees 54 = .ok (.aload_n 0, 1) := by decide +kernel
theorem dX6_frees_55 : decode cX6_frees 55 = .ok (.getfield 109, 3) := by decide +kernel
theorem dX6_frees_58 : decode cX6_frees 58 = .ok (.if_icmp .ge 61, 3) := by decide +kernel
theorem dX6_frees_61 : decode cX6_frees 61 = .ok (.aload_n 0, 1) := by decide +kernel
theorem dX6_frees_62 : decode cX6_frees 62 = .ok (.getfield 68, 3) := by decide +kernel
theorem dX6_frees_65 : decode cX6_frees 65 = .ok (.iload_n 3, 1) := by decide +kernel
theorem dX6_frees_66 : decode cX6_frees 66 = .ok (.iaload, 1) := by decide +kernel
theorem dX6_frees_67 : decode cX6_frees 67 = .ok (.iload_n 1, 1) := by decide +kernel
theorem dX6_frees_68 : decode cX6_frees 68 = .ok (.if_icmp .ne 6, 3) := by decide +kernel
theorem dX6_frees_71 : decode cX6_frees 71 = .ok (.goto 42, 3) := by decide +kernel
theorem dX6_frees_74 : decode cX6_frees 74 = .ok (.aload_n 0, 1) := by decide +kernel
theorem dX6_frees_75 : decode cX6_frees 75 = .ok (.getfield 68, 3) := by decide +kernel
theorem dX6_frees_78 : decode cX6_frees 78 = .ok (.iload_n 2, 1) := by decide +kernel
theorem dX6_frees_79 : decode cX6_frees 79 = .ok (.aload_n 0, 1) := by decide +kernel
theorem dX6_frees_80 : decode cX6_frees 80 = .ok (.getfield 68, 3) := by decide +kernel
theorem dX6_frees_83 : decode cX6_frees 83 = .ok (.iload_n 3, 1) := by decide +kernel
theorem dX6_frees_84 : decode cX6_frees 84 = .ok (.iaload, 1) := by decide +kernel
theorem dX6_frees_85 : decode cX6_frees 85 = .ok (.iastore, 1) := by decide +kernel
theorem dX6_frees_86 : decode cX6_frees 86 = .ok (.aload_n 0, 1) := by decide +kernel
theorem dX6_frees_87 : decode cX6_frees 87 = .ok (.getfield 71, 3) := by decide +kernel
theorem dX6_frees_90 : decode cX6_frees 90 = .ok (.iload_n 2, 1) := by decide +kernel
theorem dX6_frees_91 : decode cX6_frees 91 = .ok (.aload_n 0, 1) := by decide +kernel
theorem dX6_frees_92 : decode cX6_frees 92 = .ok (.getfield 71, 3) := by decide +kernel
theorem dX6_frees_95 : decode cX6_frees 95 = .ok (.iload_n 3, 1) := by decide +kernel
theorem dX6_frees_96 : decode cX6_frees 96 = .ok (.iaload, 1) := by decide +kernel
theorem dX6_frees_97 : decode cX6_frees 97 = .ok (.iastore, 1) := by decide +kernel
theorem dX6_frees_98 : decode cX6_frees 98 = .ok (.aload_n 0, 1) := by decide +kernel
theorem dX6_frees_99 : decode cX6_frees 99 = .ok (.getfield 74, 3) := by decide +kernel
theorem dX6_frees_102 : decode cX6_frees 102 = .ok (.iload_n 2, 1) := by decide +kernel
theorem dX6_frees_103 : decode cX6_frees 103 = .ok (.aload_n 0, 1) := by decide +kernel
theorem dX6_frees_104 : decode cX6_frees 104 = .ok (.getfield 74, 3) := by decide +kernel
theorem dX6_frees_107 : decode cX6_frees 107 = .ok (.iload_n 3, 1) := by decide +kernel
theorem dX6_frees_108 : decode cX6_frees 108 = .ok (.iaload, 1) := by decide +kernel
theorem dX6_frees_109 : decode cX6_frees 109 = .ok (.iastore, 1) := by decide +kernel
theorem dX6_frees_110 : decode cX6_frees 110 = .ok (.iinc 2 1, 3) := by decide +kernel
theorem dX6_frees_113 : decode cX6_frees 113 = .ok (.iinc 3 1, 3) := by decide +kernel
theorem dX6_frees_116 : decode cX6_frees 116 = .ok (.goto (-63), 3) := by decide +kernel
theorem dX6_frees_119 : decode cX6_frees 119 = .ok (.aload_n 0, 1) := by decide +kernel
theorem dX6_frees_120 : decode cX6_frees 120 = .ok (.iload_n 2, 1) := by decide +kernel
theorem dX6_frees_121 : decode cX6_frees 121 = .ok (.putfield 109, 3) := by decide +kernel
theorem dX6_frees_124 : decode cX6_frees 124 = .ok (.return_, 1) := by decide +kernel
set_option maxRecDepth 20000 in
theorem ggX6_undo_X6_frees : GoodIn wsX6_undo wsX6_frees := goodIn_r _ [11, 12, 13, 1, 2, 4, 5, 14, 15, 16, 17, 18, 19, 20, 21, 22, 23, 24, 25, 26, 27, 28, 29, 30, 31, 32, 33, 34, 35, 36, 37, 38, 39, 40, 41, 42] (by decide +kernel) (by decide +kernel)
set_option maxRecDepth 20000 in
theorem gX6_undo_X6_frees : GoodIn wsX6_undo (wsV RX6 112 RX6 yX6_frees wsX6_frees) := goodIn_app (goodIn_of _ (by decide +kernel)) ggX6_undo_X6_frees
theorem dX6_undo_0 : decode cX6_undo 0 = .ok (.aload_n 0, 1) := by decide +kernel
theorem dX6_undo_1 : decode cX6_undo 1 = .ok (.getfield 109, 3) := by decide +kernel
theorem dX6_undo_4 : decode cX6_undo 4 = .ok (.iconst 1, 1) := by decide +kernel
theorem dX6_undo_5 : decode cX6_undo 5 = .ok (.isub, 1) := by decide +kernel
theorem dX6_undo_6 : decode cX6_undo 6 = .ok (.istore_n 3, 1) := by decide +kernel
theorem dX6_undo_7 : decode cX6_undo 7 = .ok (.iload_n 3, 1) := by decide +kernel
theorem dX6_undo_8 : decode cX6_undo 8 = .ok (.ifCond .lt 36, 3) := by decide +kernel
theorem dX6_undo_11 : decode cX6_undo 11 = .ok (.aload_n 0, 1) := by decide +kernel
theorem dX6_undo_12 : decode cX6_undo 12 = .ok (.getfield 68, 3) := by decide +kernel
theorem dX6_undo_15 : decode cX6_undo 15 = .ok (.iload_n 3, 1) := by decide +kernel
theorem dX6_undo_16 : decode cX6_undo 16 = .ok (.iaload, 1) := by decide +kernel
theorem dX6_undo_17 : decode cX6_undo 17 = .ok (.iload_n 1, 1) := by decide +kernel
theorem dX6_undo_18 : decode cX6_undo 18 = .ok (.if_icmp .ne 20, 3) := by decide +kernel
theorem dX6_undo_21 : decode cX6_undo 21 = .ok (.aload_n 0, 1) := by decide +kernel
theorem dX6_undo_22 : decode cX6_undo 22 = .ok (.getfield 59, 3) := by decide +kernel
theorem dX6_undo_25 : decode cX6_undo 25 = .ok (.aload_n 0, 1) := by decide +kernel
theorem dX6_undo_26 : decode cX6_undo 26 = .ok (.getfield 71, 3) := by decide +kernel
theorem dX6_undo_29 : decode cX6_undo 29 = .ok (.iload_n 3, 1) := by decide +kernel
theorem dX6_undo_30 : decode cX6_undo 30 = .ok (.iaload, 1) := by decide +kernel
theorem dX6_undo_31 : decode cX6_undo 31 = .ok (.aload_n 0, 1) := by decide +kernel
theorem dX6_undo_32 : decode cX6_undo 32 = .ok (.getfield 74, 3) := by decide +kernel
theorem dX6_undo_35 : decode cX6_undo 35 = .ok (.iload_n 3, 1) := by decide +kernel
theorem dX6_undo_36 : decode cX6_undo 36 = .ok (.iaload, 1) := by decide +kernel
theorem dX6_undo_37 : decode cX6_undo 37 = .ok (.iastore, 1) := by decide +kernel
theorem dX6_undo_38 : decode cX6_undo 38 = .ok (.iinc 3 (-1), 3) := by decide +kernel
theorem dX6_undo_41 : decode cX6_undo 41 = .ok (.goto (-34), 3) := by decide +kernel
theorem dX6_undo_44 : decode cX6_undo 44 = .ok (.aload_n 0, 1) := by decide +kernel
theorem dX6_undo_45 : decode cX6_undo 45 = .ok (.iload_n 1, 1) := by decide +kernel
theorem dX6_undo_46 : decode cX6_undo 46 = .ok (.invokevirtual 112, 3) := by decide +kernel
theorem dX6_undo_49 : decode cX6_undo 49 = .ok (.aload_n 0, 1) := by decide +kernel
theorem dX6_undo_50 : decode cX6_undo 50 = .ok (.getfield 16, 3) := by decide +kernel
theorem dX6_undo_53 : decode cX6_undo 53 = .ok (.iload_n 1, 1) := by decide +kernel
theorem dX6_undo_54 : decode cX6_undo 54 = .ok (.iload_n 2, 1) := by decide +kernel
theorem dX6_undo_55 : decode cX6_undo 55 = .ok (.iastore, 1) := by decide +kernel
theorem dX6_undo_56 : decode cX6_undo 56 = .ok (.return_, 1) := by decide +kernel
set_option maxRecDepth 20000 in
theorem ggX6_acts_X6_frees : GoodIn wsX6_acts wsX6_frees := goodIn_r _ [22, 2, 23, 4, 3, 5, 6, 24, 25, 26, 27, 28, 29, 30, 31, 32, 33, 34, 35, 36, 37, 38, 39, 40, 41, 42, 43, 44, 45, 46, 47, 48, 49, 50, 51, 52] (by decide +kernel) (by decide +kernel)
set_option maxRecDepth 20000 in
theorem gX6_acts_X6_frees : GoodIn wsX6_acts (wsV RX6 112 RX6 yX6_frees wsX6_frees) := goodIn_app (goodIn_of _ (by decide +kernel)) ggX6_acts_X6_frees
theorem dX6_acts_0 : decode cX6_acts 0 = .ok (.aload_n 0, 1) := by decide +kernel
theorem dX6_acts_1 : decode cX6_acts 1 = .ok (.getfield 19, 3) := by decide +kernel
theorem dX6_acts_4 : decode cX6_acts 4 = .ok (.iload_n 1, 1) := by decide +kernel
theorem dX6_acts_5 : decode cX6_acts 5 = .ok (.iaload, 1) := by decide +kernel
theorem dX6_acts_6 : decode cX6_acts 6 = .ok (.istore_n 2, 1) := by decide +kernel
theorem dX6_acts_7 : decode cX6_acts 7 = .ok (.iconst 0, 1) := by decide +kernel
theorem dX6_acts_8 : decode cX6_acts 8 = .ok (.istore_n 3, 1) := by decide +kernel
theorem dX6_acts_9 : decode cX6_acts 9 = .ok (.iload_n 3, 1) := by decide +kernel
theorem dX6_acts_10 : decode cX6_acts 10 = .ok (.bipush 10, 2) := by decide +kernel
theorem dX6_acts_12 : decode cX6_acts 12 = .ok (.if_icmp .ge 90, 3) := by decide +kernel
theorem dX6_acts_15 : decode cX6_acts 15 = .ok (.aload_n 0, 1) := by decide +kernel
theorem dX6_acts_16 : decode cX6_acts 16 = .ok (.getfield 56, 3) := by decide +kernel
theorem dX6_acts_19 : decode cX6_acts 19 = .ok (.iload_n 3, 1) := by decide +kernel
theorem dX6_acts_20 : decode cX6_acts 20 = .ok (.iaload, 1) := by decide +kernel
theorem dX6_acts_21 : decode cX6_acts 21 = .ok (.iload_n 1, 1) := by decide +kernel
theorem dX6_acts_22 : decode cX6_acts 22 = .ok (.iconst 1, 1) := by decide +kernel
theorem dX6_acts_23 : decode cX6_acts 23 = .ok (.iadd, 1) := by decide +kernel
theorem dX6_acts_24 : decode cX6_acts 24 = .ok (.if_icmp .eq 6, 3) := by decide +kernel
theorem dX6_acts_27 : decode cX6_acts 27 = .ok (.goto 69, 3) := by decide +kernel
theorem dX6_acts_30 : decode cX6_acts 30 = .ok (.aload_n 0, 1) := by decide +kernel
theorem dX6_acts_31 : decode cX6_acts 31 = .ok (.getfield 68, 3) := by decide +kernel
theorem dX6_acts_34 : decode cX6_acts 34 = .ok (.aload_n 0, 1) := by decide +kernel
theorem dX6_acts_35 : decode cX6_acts 35 = .ok (.getfield 109, 3) := by decide +kernel
theorem dX6_acts_38 : decode cX6_acts 38 = .ok (.iload_n 1, 1) := by decide +kernel
theorem dX6_acts_39 : decode cX6_acts 39 = .ok (.iastore, 1) := by decide +kernel
theorem dX6_acts_40 : decode cX6_acts 40 = .ok (.aload_n 0, 1) := by decide +kernel
theorem dX6_acts_41 : decode cX6_acts 41 = .ok (.getfield 71, 3) := by decide +kernel
theorem dX6_acts_44 : decode cX6_acts 44 = .ok (.aload_n 0, 1) := by decide +kernel
theorem dX6_acts_45 : decode cX6_acts 45 = .ok (.getfield 109, 3) := by decide +kernel
theorem dX6_acts_48 : decode cX6_acts 48 = .ok (.iload_n 3, 1) := by decide +kernel
theorem dX6_acts_49 : decode cX6_acts 49 = .ok (.iastore, 1) := by decide +kernel
theorem dX6_acts_50 : decode cX6_acts 50 = .ok (.aload_n 0, 1) := by decide +kernel
theorem dX6_acts_51 : decode cX6_acts 51 = .ok (.getfield 74, 3) := by decide +kernel
theorem dX6_acts_54 : decode cX6_acts 54 = .ok (.aload_n 0, 1) := by decide +kernel
theorem dX6_acts_55 : decode cX6_acts 55 = .ok (.getfield 109, 3) := by decide +kernel
theorem dX6_acts_58 : decode cX6_acts 58 = .ok (.aload_n 0, 1) := by decide +kernel
theorem dX6_acts_59 : decode cX6_acts 59 = .ok (.getfield 59, 3) := by decide +kernel
theorem dX6_acts_62 : decode cX6_acts 62 = .ok (.iload_n 3, 1) := by decide +kernel
theorem dX6_acts_63 : decode cX6_acts 63 = .ok (.iaload, 1) := by decide +kernel
theorem dX6_acts_64 : decode cX6_acts 64 = .ok (.iastore, 1) := by decide +kernel
theorem dX6_acts_65 : decode cX6_acts 65 = .ok (.aload_n 0, 1) := by decide +kernel
theorem dX6_acts_66 : decode cX6_acts 66 = .ok (.dup, 1) := by decide +kernel
theorem dX6_acts_67 : decode cX6_acts 67 = .ok (.getfield 109, 3) := by decide +kernel
theorem dX6_acts_70 : decode cX6_acts 70 = .ok (.iconst 1, 1) := by decide +kernel
theorem dX6_acts_71 : decode cX6_acts 71 = .ok (.iadd, 1) := by decide +kernel
theorem dX6_acts_72 : decode cX6_acts 72 = .ok (.putfield 109, 3) := by decide +kernel
theorem dX6_acts_75 : decode cX6_acts 75 = .ok (.aload_n 0, 1) := by decide +kernel
theorem dX6_acts_76 : decode cX6_acts 76 = .ok (.getfield 59, 3) := by decide +kernel
theorem dX6_acts_79 : decode cX6_acts 79 = .ok (.iload_n 3, 1) := by decide +kernel
theorem dX6_acts_80 : decode cX6_acts 80 = .ok (.iconst 3, 1) := by decide +kernel
theorem dX6_acts_81 : decode cX6_acts 81 = .ok (.aload_n 0, 1) := by decide +kernel
theorem dX6_acts_82 : decode cX6_acts 82 = .ok (.getfield 59, 3) := by decide +kernel
theorem dX6_acts_85 : decode cX6_acts 85 = .ok (.iload_n 3, 1) := by decide +kernel
theorem dX6_acts_86 : decode cX6_acts 86 = .ok (.iaload, 1) := by decide +kernel
theorem dX6_acts_87 : decode cX6_acts 87 = .ok (.imul, 1) := by decide +kernel
theorem dX6_acts_88 : decode cX6_acts 88 = .ok (.iload_n 1, 1) := by decide +kernel
theorem dX6_acts_89 : decode cX6_acts 89 = .ok (.iadd, 1) := by decide +kernel
theorem dX6_acts_90 : decode cX6_acts 90 = .ok (.bipush 10, 2) := by decide +kernel
theorem dX6_acts_92 : decode cX6_acts 92 = .ok (.iload_n 2, 1) := by decide +kernel
theorem dX6_acts_93 : decode cX6_acts 93 = .ok (.imul, 1) := by decide +kernel
theorem dX6_acts_94 : decode cX6_acts 94 = .ok (.iadd, 1) := by decide +kernel
theorem dX6_acts_95 : decode cX6_acts 95 = .ok (.iastore, 1) := by decide +kernel
theorem dX6_acts_96 : decode cX6_acts 96 = .ok (.iinc 3 1, 3) := by decide +kernel
theorem dX6_acts_99 : decode cX6_acts 99 = .ok (.goto (-90), 3) := by decide +kernel
theorem dX6_acts_102 : decode cX6_acts 102 = .ok (.aload_n 0, 1) := by decide +kernel
theorem dX6_acts_103 : decode cX6_acts 103 = .ok (.getfield 116, 3) := by decide +kernel
theorem dX6_acts_106 : decode cX6_acts 106 = .ok (.sipush 300, 3) := by decide +kernel
theorem dX6_acts_109 : decode cX6_acts 109 = .ok (.if_icmp .ge 28, 3) := by decide +kernel
theorem dX6_acts_112 : decode cX6_acts 112 = .ok (.aload_n 0, 1) := by decide +kernel
theorem dX6_acts_113 : decode cX6_acts 113 = .ok (.getfield 77, 3) := by decide +kernel
theorem dX6_acts_116 : decode cX6_acts 116 = .ok (.aload_n 0, 1) := by decide +kernel
theorem dX6_acts_117 : decode cX6_acts 117 = .ok (.getfield 116, 3) := by decide +kernel
theorem dX6_acts_120 : decode cX6_acts 120 = .ok (.bipush 100, 2) := by decide +kernel
theorem dX6_acts_122 : decode cX6_acts 122 = .ok (.iload_n 1, 1) := by decide +kernel
theorem dX6_acts_123 : decode cX6_acts 123 = .ok (.imul, 1) := by decide +kernel
theorem dX6_acts_124 : decode cX6_acts 124 = .ok (.iload_n 2, 1) := by decide +kernel
theorem dX6_acts_125 : decode cX6_acts 125 = .ok (.iadd, 1) := by decide +kernel
theorem dX6_acts_126 : decode cX6_acts 126 = .ok (.iastore, 1) := by decide +kernel
theorem dX6_acts_127 : decode cX6_acts 127 = .ok (.aload_n 0, 1) := by decide +kernel
theorem dX6_acts_128 : decode cX6_acts 128 = .ok (.dup, 1) := by decide +kernel
theorem dX6_acts_129 : decode cX6_acts 129 = .ok (.getfield 116, 3) := by decide +kernel
theorem dX6_acts_132 : decode cX6_acts 132 = .ok (.iconst 1, 1) := by decide +kernel
theorem dX6_acts_133 : decode cX6_acts 133 = .ok (.iadd, 1) := by decide +kernel
theorem dX6_acts_134 : decode cX6_acts 134 = .ok (.putfield 116, 3) := by decide +kernel
theorem dX6_acts_137 : decode cX6_acts 137 = .ok (.iconst 0, 1) := by decide +kernel
theorem dX6_acts_138 : decode cX6_acts 138 = .ok (.istore_n 3, 1) := by decide +kernel
theorem dX6_acts_139 : decode cX6_acts 139 = .ok (.iload_n 3, 1) := by decide +kernel
theorem dX6_acts_140 : decode cX6_acts 140 = .ok (.aload_n 0, 1) := by decide +kernel
theorem dX6_acts_141 : decode cX6_acts 141 = .ok (.getfield 50, 3) := by decide +kernel
theorem dX6_acts_144 : decode cX6_acts 144 = .ok (.bipush 10, 2) := by decide +kernel
theorem dX6_acts_146 : decode cX6_acts 146 = .ok (.iload_n 1, 1) := by decide +kernel
theorem dX6_acts_147 : decode cX6_acts 147 = .ok (.imul, 1) := by decide +kernel
theorem dX6_acts_148 : decode cX6_acts 148 = .ok (.iload_n 2, 1) := by decide +kernel
theorem dX6_acts_149 : decode cX6_acts 149 = .ok (.iadd, 1) := by decide +kernel
theorem dX6_acts_150 : decode cX6_acts 150 = .ok (.iaload, 1) := by decide +kernel
theorem dX6_acts_151 : decode cX6_acts 151 = .ok (.if_icmp .ge 73, 3) := by decide +kernel
theorem dX6_acts_154 : decode cX6_acts 154 = .ok (.bipush 12, 2) := by decide +kernel
theorem dX6_acts_156 : decode cX6_acts 156 = .ok (.iload_n 1, 1) := by decide +kernel
theorem dX6_acts_157 : decode cX6_acts 157 = .ok (.imul, 1) := by decide +kernel
theorem dX6_acts_158 : decode cX6_acts 158 = .ok (.aload_n 0, 1) := by decide +kernel
theorem dX6_acts_159 : decode cX6_acts 159 = .ok (.getfield 53, 3) := by decide +kernel
theorem dX6_acts_162 : decode cX6_acts 162 = .ok (.iconst 2, 1) := by decide +kernel
theorem dX6_acts_163 : decode cX6_acts 163 = .ok (.bipush 10, 2) := by decide +kernel
theorem dX6_acts_165 : decode cX6_acts 165 = .ok (.iload_n 1, 1) := by decide +kernel
theorem dX6_acts_166 : decode cX6_acts 166 = .ok (.imul, 1) := by decide +kernel
theorem dX6_acts_167 : decode cX6_acts 167 = .ok (.iload_n 2, 1) := by decide +kernel
theorem dX6_acts_168 : decode cX6_acts 168 = .ok (.iadd, 1) := by decide +kernel
theorem dX6_acts_169 : decode cX6_acts 169 = .ok (.imul, 1) := by decide +kernel
theorem dX6_acts_170 : decode cX6_acts 170 = .ok (.iload_n 3, 1) := by decide +kernel
theorem dX6_acts_171 : decode cX6_acts 171 = .ok (.iadd, 1) := by decide +kernel
theorem dX6_acts_172 : decode cX6_acts 172 = .ok (.iaload, 1) := by decide +kernel
theorem dX6_acts_173 : decode cX6_acts 173 = .ok (.iadd, 1) := by decide +kernel
theorem dX6_acts_174 : decode cX6_acts 174 = .ok (.istore 4, 2) := by decide +kernel
theorem dX6_acts_176 : decode cX6_acts 176 = .ok (.aload_n 0, 1) := by decide +kernel
theorem dX6_acts_177 : decode cX6_acts 177 = .ok (.getfield 99, 3) := by decide +kernel
theorem dX6_acts_180 : decode cX6_acts 180 = .ok (.ifCond .le 27, 3) := by decide +kernel
theorem dX6_acts_183 : decode cX6_acts 183 = .ok (.aload_n 0, 1) := by decide +kernel
theorem dX6_acts_184 : decode cX6_acts 184 = .ok (.dup, 1) := by decide +kernel
theorem dX6_acts_185 : decode cX6_acts 185 = .ok (.getfield 99, 3) := by decide +kernel
theorem dX6_acts_188 : decode cX6_acts 188 = .ok (.iconst 1, 1) := by decide +kernel
theorem dX6_acts_189 : decode cX6_acts 189 = .ok (.isub, 1) := by decide +kernel
theorem dX6_acts_190 : decode cX6_acts 190 = .ok (.putfield 99, 3) := by decide +kernel
theorem dX6_acts_193 : decode cX6_acts 193 = .ok (.aload_n 0, 1) := by decide +kernel
theorem dX6_acts_194 : decode cX6_acts 194 = .ok (.getfield 65, 3) := by decide +kernel
theorem dX6_acts_197 : decode cX6_acts 197 = .ok (.iload 4, 2) := by decide +kernel
theorem dX6_acts_199 : decode cX6_acts 199 = .ok (.dup2, 1) := by decide +kernel
theorem dX6_acts_200 : decode cX6_acts 200 = .ok (.iaload, 1) := by decide +kernel
theorem dX6_acts_201 : decode cX6_acts 201 = .ok (.iconst 1, 1) := by decide +kernel
theorem dX6_acts_202 : decode cX6_acts 202 = .ok (.iadd, 1) := by decide +kernel
theorem dX6_acts_203 : decode cX6_acts 203 = .ok (.iastore, 1) := by decide +kernel
theorem dX6_acts_204 : decode cX6_acts 204 = .ok (.goto 14, 3) := by decide +kernel
theorem dX6_acts_207 : decode cX6_acts 207 = .ok (.aload_n 0, 1) := by decide +kernel
theorem dX6_acts_208 : decode cX6_acts 208 = .ok (.getfield 62, 3) := by decide +kernel
theorem dX6_acts_211 : decode cX6_acts 211 = .ok (.iload 4, 2) := by decide +kernel
theorem dX6_acts_213 : decode cX6_acts 213 = .ok (.dup2, 1) := by decide +kernel
theorem dX6_acts_214 : decode cX6_acts 214 = .ok (.iaload, 1) := by decide +kernel
theorem dX6_acts_215 : decode cX6_acts 215 = .ok (.iconst 1, 1) := by decide +kernel
theorem dX6_acts_216 : decode cX6_acts 216 = .ok (.iadd, 1) := by decide +kernel
theorem dX6_acts_217 : decode cX6_acts 217 = .ok (.iastore, 1) := by decide +kernel
theorem dX6_acts_218 : decode cX6_acts 218 = .ok (.iinc 3 1, 3) := by decide +kernel
theorem dX6_acts_221 : decode cX6_acts 221 = .ok (.goto (-82), 3) := by decide +kernel
theorem dX6_acts_224 : decode cX6_acts 224 = .ok (.aload_n 0, 1) := by decide +kernel
theorem dX6_acts_225 : decode cX6_acts 225 = .ok (.getfield 19, 3) := by decide +kernel
theorem dX6_acts_228 : decode cX6_acts 228 = .ok (.iload_n 1, 1) := by decide +kernel
theorem dX6_acts_229 : decode cX6_acts 229 = .ok (.dup2, 1) := by decide +kernel
theorem dX6_acts_230 : decode cX6_acts 230 = .ok (.iaload, 1) := by decide +kernel
theorem dX6_acts_231 : decode cX6_acts 231 = .ok (.iconst 1, 1) := by decide +kernel
theorem dX6_acts_232 : decode cX6_acts 232 = .ok (.iadd, 1) := by decide +kernel
theorem dX6_acts_233 : decode cX6_acts 233 = .ok (.iastore, 1) := by decide +kernel
theorem dX6_acts_234 : decode cX6_acts 234 = .ok (.aload_n 0, 1) := by decide +kernel
theorem dX6_acts_235 : decode cX6_acts 235 = .ok (.getfield 22, 3) := by decide +kernel
theorem dX6_acts_238 : decode cX6_acts 238 = .ok (.iload_n 1, 1) := by decide +kernel
theorem dX6_acts_239 : decode cX6_acts 239 = .ok (.iconst 0, 1) := by decide +kernel
theorem dX6_acts_240 : decode cX6_acts 240 = .ok (.iastore, 1) := by decide +kernel
theorem dX6_acts_241 : decode cX6_acts 241 = .ok (.aload_n 0, 1) := by decide +kernel
theorem dX6_acts_242 : decode cX6_acts 242 = .ok (.getfield 19, 3) := by decide +kernel
theorem dX6_acts_245 : decode cX6_acts 245 = .ok (.iload_n 1, 1) := by decide +kernel
theorem dX6_acts_246 : decode cX6_acts 246 = .ok (.iaload, 1) := by decide +kernel
theorem dX6_acts_247 : decode cX6_acts 247 = .ok (.aload_n 0, 1) := by decide +kernel
theorem dX6_acts_248 : decode cX6_acts 248 = .ok (.getfield 7, 3) := by decide +kernel
theorem dX6_acts_251 : decode cX6_acts 251 = .ok (.iload_n 1, 1) := by decide +kernel
theorem dX6_acts_252 : decode cX6_acts 252 = .ok (.iaload, 1) := by decide +kernel
theorem dX6_acts_253 : decode cX6_acts 253 = .ok (.if_icmp .ne 15, 3) := by decide +kernel
theorem dX6_acts_256 : decode cX6_acts 256 = .ok (.aload_n 0, 1) := by decide +kernel
theorem dX6_acts_257 : decode cX6_acts 257 = .ok (.iload_n 1, 1) := by decide +kernel
theorem dX6_acts_258 : decode cX6_acts 258 = .ok (.invokevirtual 112, 3) := by decide +kernel
theorem dX6_acts_261 : decode cX6_acts 261 = .ok (.aload_n 0, 1) := by decide +kernel
theorem dX6_acts_262 : decode cX6_acts 262 = .ok (.getfield 16, 3) := by decide +kernel
theorem dX6_acts_265 : decode cX6_acts 265 = .ok (.iload_n 1, 1) := by decide +kernel
theorem dX6_acts_266 : decode cX6_acts 266 = .ok (.iconst 1, 1) := by decide +kernel
theorem dX6_acts_267 : decode cX6_acts 267 = .ok (.iastore, 1) := by decide +kernel
theorem dX6_acts_268 : decode cX6_acts 268 = .ok (.return_, 1) := by decide +kernel
set_option maxRecDepth 20000 in
theorem ggX6_does_X6_isWork : GoodIn wsX6_does wsX6_isWork := goodIn_r _ [13, 14, 15, 16, 12, 17, 60, 61, 62, 63, 64, 65, 66, 67, 68, 69, 70, 71, 72, 73, 74, 75, 76, 77, 78, 79, 80, 81, 82, 83, 84, 85, 86, 87, 88] (by decide +kernel) (by decide +kernel)
set_option maxRecDepth 20000 in
theorem gX6_does_X6_isWork : GoodIn wsX6_does (wsV RX6 91 RX6 yX6_isWork wsX6_isWork) := goodIn_app (goodIn_of _ (by decide +kernel)) ggX6_does_X6_isWork
set_option maxRecDepth 20000 in
theorem ggX6_does_X6_takes : GoodIn wsX6_does wsX6_takes := goodIn_r _ [21, 22, 23, 4, 24, 25, 26, 27, 28, 12, 29, 14, 60, 61, 62, 63, 64, 65, 66, 67, 68, 69, 70, 71, 72, 73, 74, 75, 76, 77, 78, 79, 80, 81, 82, 83, 84, 85, 86, 87, 88] (by decide +kernel) (by decide +kernel)
set_option maxRecDepth 20000 in
theorem gX6_does_X6_takes : GoodIn wsX6_does (wsV RX6 119 RX6 yX6_takes wsX6_takes) := goodIn_app (goodIn_of _ (by decide +kernel)) ggX6_does_X6_takes
set_option maxRecDepth 20000 in
theorem ggX6_does_X6_hears : GoodIn wsX6_does wsX6_hears := goodIn_r _ [33, 34, 4, 35, 36, 60, 61, 62, 63, 64, 65, 66, 67, 68, 69, 70, 71, 72, 73, 74, 75, 76, 77, 78, 79, 80, 81, 82, 83, 84, 85, 86, 87, 88] (by decide +kernel) (by decide +kernel)
set_option maxRecDepth 20000 in
theorem gX6_does_X6_hears : GoodIn wsX6_does (wsV RX6 122 RX6 yX6_hears wsX6_hears) := goodIn_app (goodIn_of _ (by decide +kernel)) ggX6_does_X6_hears
