theorem dX5_freed_27 : decode cX5_freed 27 = .ok (.getfield 91, 3) := by decide +kernel
theorem dX5_freed_30 : decode cX5_freed 30 = .ok (.getfield 95, 3) := by decide +kernel
theorem dX5_freed_33 : decode cX5_freed 33 = .ok (.if_icmp .ge 77, 3) := by decide +kernel
theorem dX5_freed_36 : decode cX5_freed 36 = .ok (.aload_n 0, 1) := by decide +kernel
theorem dX5_freed_37 : decode cX5_freed 37 = .ok (.getfield 19, 3) := by decide +kernel
theorem dX5_freed_40 : decode cX5_freed 40 = .ok (.getfield 91, 3) := by decide +kernel
theorem dX5_freed_43 : decode cX5_freed 43 = .ok (.getfield 108, 3) := by decide +kernel
theorem dX5_freed_46 : decode cX5_freed 46 = .ok (.iload_n 3, 1) := by decide +kernel
theorem dX5_freed_47 : decode cX5_freed 47 = .ok (.iaload, 1) := by decide +kernel
theorem dX5_freed_48 : decode cX5_freed 48 = .ok (.istore 4, 2) := by decide +kernel
theorem dX5_freed_50 : decode cX5_freed 50 = .ok (.aload_n 0, 1) := by decide +kernel
theorem dX5_freed_51 : decode cX5_freed 51 = .ok (.getfield 19, 3) := by decide +kernel
theorem dX5_freed_54 : decode cX5_freed 54 = .ok (.getfield 91, 3) := by decide +kernel
theorem dX5_freed_57 : decode cX5_freed 57 = .ok (.getfield 111, 3) := by decide +kernel
theorem dX5_freed_60 : decode cX5_freed 60 = .ok (.iload_n 3, 1) := by decide +kernel
theorem dX5_freed_61 : decode cX5_freed 61 = .ok (.iaload, 1) := by decide +kernel
theorem dX5_freed_62 : decode cX5_freed 62 = .ok (.istore 5, 2) := by decide +kernel
theorem dX5_freed_64 : decode cX5_freed 64 = .ok (.iload_n 1, 1) := by decide +kernel
theorem dX5_freed_65 : decode cX5_freed 65 = .ok (.iload 4, 2) := by decide +kernel
theorem dX5_freed_67 : decode cX5_freed 67 = .ok (.iload 5, 2) := by decide +kernel
theorem dX5_freed_69 : decode cX5_freed 69 = .ok (.invokestatic 87, 3) := by decide +kernel
theorem dX5_freed_72 : decode cX5_freed 72 = .ok (.invokestatic 46, 3) := by decide +kernel
theorem dX5_freed_75 : decode cX5_freed 75 = .ok (.istore 6, 2) := by decide +kernel
theorem dX5_freed_77 : decode cX5_freed 77 = .ok (.iload 6, 2) := by decide +kernel
theorem dX5_freed_79 : decode cX5_freed 79 = .ok (.invokestatic 49, 3) := by decide +kernel
theorem dX5_freed_82 : decode cX5_freed 82 = .ok (.iconst 3, 1) := by decide +kernel
theorem dX5_freed_83 : decode cX5_freed 83 = .ok (.if_icmp .gt 21, 3) := by decide +kernel
theorem dX5_freed_86 : decode cX5_freed 86 = .ok (.iload_n 2, 1) := by decide +kernel
theorem dX5_freed_87 : decode cX5_freed 87 = .ok (.ifCond .ne 7, 3) := by decide +kernel
theorem dX5_freed_90 : decode cX5_freed 90 = .ok (.iload_n 3, 1) := by decide +kernel
theorem dX5_freed_91 : decode cX5_freed 91 = .ok (.goto 12, 3) := by decide +kernel
theorem dX5_freed_94 : decode cX5_freed 94 = .ok (.iload 6, 2) := by decide +kernel
theorem dX5_freed_96 : decode cX5_freed 96 = .ok (.iload 4, 2) := by decide +kernel
theorem dX5_freed_98 : decode cX5_freed 98 = .ok (.iload 5, 2) := by decide +kernel
theorem dX5_freed_100 : decode cX5_freed 100 = .ok (.invokestatic 117, 3) := by decide +kernel
theorem dX5_freed_103 : decode cX5_freed 103 = .ok (.ireturn, 1) := by decide +kernel
theorem dX5_freed_104 : decode cX5_freed 104 = .ok (.iinc 3 1, 3) := by decide +kernel
theorem dX5_freed_107 : decode cX5_freed 107 = .ok (.goto (-85), 3) := by decide +kernel
theorem dX5_freed_110 : decode cX5_freed 110 = .ok (.bipush (-6), 2) := by decide +kernel
theorem dX5_freed_112 : decode cX5_freed 112 = .ok (.ireturn, 1) := by decide +kernel
set_option maxRecDepth 20000 in
theorem ggX5_open_X3_coveredByFirst : GoodIn wsX5_open wsX3_coveredByFirst := goodIn_r _ [5, 6, 7, 8, 3, 9, 10, 11, 12, 13, 14, 15, 16, 17, 18, 29, 30, 31, 32] (by decide +kernel) (by decide +kernel)
set_option maxRecDepth 20000 in
theorem gX5_open_X3_coveredByFirst_n114 : GoodIn wsX5_open (wsX3_coveredByFirst) := ggX5_open_X3_coveredByFirst
set_option maxRecDepth 20000 in
theorem ggX5_open_X3_firstNotCovered : GoodIn wsX5_open wsX3_firstNotCovered := goodIn_r _ [21, 10, 6, 7, 8, 3, 9, 11, 29, 30, 31, 32] (by decide +kernel) (by decide +kernel)
set_option maxRecDepth 20000 in
theorem gX5_open_X3_firstNotCovered_n120 : GoodIn wsX5_open (wsX3_firstNotCovered) := ggX5_open_X3_firstNotCovered
theorem dX5_open_0 : decode cX5_open 0 = .ok (.iload_n 1, 1) := by decide +kernel
theorem dX5_open_1 : decode cX5_open 1 = .ok (.lookupswitch 63 #[(0, 27), (1, 52)], 27) := by decide +kernel
theorem dX5_open_28 : decode cX5_open 28 = .ok (.sipush 1771, 3) := by decide +kernel
theorem dX5_open_31 : decode cX5_open 31 = .ok (.aload_n 0, 1) := by decide +kernel
theorem dX5_open_32 : decode cX5_open 32 = .ok (.getfield 19, 3) := by decide +kernel
theorem dX5_open_35 : decode cX5_open 35 = .ok (.getfield 91, 3) := by decide +kernel
theorem dX5_open_38 : decode cX5_open 38 = .ok (.aload_n 0, 1) := by decide +kernel
theorem dX5_open_39 : decode cX5_open 39 = .ok (.getfield 19, 3) := by decide +kernel
theorem dX5_open_42 : decode cX5_open 42 = .ok (.getfield 91, 3) := by decide +kernel
theorem dX5_open_45 : decode cX5_open 45 = .ok (.getfield 95, 3) := by decide +kernel
theorem dX5_open_48 : decode cX5_open 48 = .ok (.invokevirtual 114, 3) := by decide +kernel
theorem dX5_open_51 : decode cX5_open 51 = .ok (.isub, 1) := by decide +kernel
theorem dX5_open_52 : decode cX5_open 52 = .ok (.ireturn, 1) := by decide +kernel
theorem dX5_open_53 : decode cX5_open 53 = .ok (.aload_n 0, 1) := by decide +kernel
theorem dX5_open_54 : decode cX5_open 54 = .ok (.getfield 19, 3) := by decide +kernel
theorem dX5_open_57 : decode cX5_open 57 = .ok (.getfield 91, 3) := by decide +kernel
theorem dX5_open_60 : decode cX5_open 60 = .ok (.invokevirtual 120, 3) := by decide +kernel
theorem dX5_open_63 : decode cX5_open 63 = .ok (.ireturn, 1) := by decide +kernel
theorem dX5_open_64 : decode cX5_open 64 = .ok (.bipush (-2), 2) := by decide +kernel
theorem dX5_open_66 : decode cX5_open 66 = .ok (.ireturn, 1) := by decide +kernel
set_option maxRecDepth 20000 in
theorem ggX5_sure_X5_isBelow : GoodIn wsX5_sure wsX5_isBelow := goodIn_r _ [5] (by decide +kernel) (by decide +kernel)
set_option maxRecDepth 20000 in
theorem gX5_sure_X5_isBelow : GoodIn wsX5_sure (va_wsS RX5 35 yX5_isBelow wsX5_isBelow) := goodIn_app (goodIn_of _ (by decide +kernel)) ggX5_sure_X5_isBelow
theorem dX5_sure_0 : decode cX5_sure 0 = .ok (.iload_n 1, 1) := by decide +kernel
theorem dX5_sure_1 : decode cX5_sure 1 = .ok (.bipush 23, 2) := by decide +kernel
theorem dX5_sure_3 : decode cX5_sure 3 = .ok (.invokestatic 35, 3) := by decide +kernel
theorem dX5_sure_6 : decode cX5_sure 6 = .ok (.ifCond .eq 12, 3) := by decide +kernel
theorem dX5_sure_9 : decode cX5_sure 9 = .ok (.iload_n 2, 1) := by decide +kernel
theorem dX5_sure_10 : decode cX5_sure 10 = .ok (.bipush 10, 2) := by decide +kernel
theorem dX5_sure_12 : decode cX5_sure 12 = .ok (.invokestatic 35, 3) := by decide +kernel
theorem dX5_sure_15 : decode cX5_sure 15 = .ok (.ifCond .ne 6, 3) := by decide +kernel
theorem dX5_sure_18 : decode cX5_sure 18 = .ok (.bipush (-2), 2) := by decide +kernel
theorem dX5_sure_20 : decode cX5_sure 20 = .ok (.ireturn, 1) := by decide +kernel
theorem dX5_sure_21 : decode cX5_sure 21 = .ok (.aload_n 0, 1) := by decide +kernel
theorem dX5_sure_22 : decode cX5_sure 22 = .ok (.getfield 19, 3) := by decide +kernel
theorem dX5_sure_25 : decode cX5_sure 25 = .ok (.getfield 124, 3) := by decide +kernel
theorem dX5_sure_28 : decode cX5_sure 28 = .ok (.getfield 128, 3) := by decide +kernel
theorem dX5_sure_31 : decode cX5_sure 31 = .ok (.iload_n 1, 1) := by decide +kernel
theorem dX5_sure_32 : decode cX5_sure 32 = .ok (.iaload, 1) := by decide +kernel
theorem dX5_sure_33 : decode cX5_sure 33 = .ok (.istore_n 3, 1) := by decide +kernel
theorem dX5_sure_34 : decode cX5_sure 34 = .ok (.aload_n 0, 1) := by decide +kernel
theorem dX5_sure_35 : decode cX5_sure 35 = .ok (.getfield 19, 3) := by decide +kernel
theorem dX5_sure_38 : decode cX5_sure 38 = .ok (.getfield 124, 3) := by decide +kernel
theorem dX5_sure_41 : decode cX5_sure 41 = .ok (.getfield 128, 3) := by decide +kernel
theorem dX5_sure_44 : decode cX5_sure 44 = .ok (.iload_n 1, 1) := by decide +kernel
theorem dX5_sure_45 : decode cX5_sure 45 = .ok (.iload_n 2, 1) := by decide +kernel
theorem dX5_sure_46 : decode cX5_sure 46 = .ok (.iastore, 1) := by decide +kernel
theorem dX5_sure_47 : decode cX5_sure 47 = .ok (.iload_n 3, 1) := by decide +kernel
theorem dX5_sure_48 : decode cX5_sure 48 = .ok (.ireturn, 1) := by decide +kernel
set_option maxRecDepth 20000 in
theorem ggX5_weak_X5_isBelow : GoodIn wsX5_weak wsX5_isBelow := goodIn_r _ [5] (by decide +kernel) (by decide +kernel)
set_option maxRecDepth 20000 in
theorem gX5_weak_X5_isBelow : GoodIn wsX5_weak (va_wsS RX5 35 yX5_isBelow wsX5_isBelow) := goodIn_app (goodIn_of _ (by decide +kernel)) ggX5_weak_X5_isBelow
set_option maxRecDepth 20000 in
theorem ggX5_weak_X4_weakestBut : GoodIn wsX5_weak wsX4_weakestBut := goodIn_r _ [9, 10, 18] (by decide +kernel) (by decide +kernel)
set_option maxRecDepth 20000 in
theorem gX5_weak_X4_weakestBut_n133 : GoodIn wsX5_weak (wsX4_weakestBut) := ggX5_weak_X4_weakestBut
theorem dX5_weak_0 : decode cX5_weak 0 = .ok (.iload_n 1, 1) := by decide +kernel
theorem dX5_weak_1 : decode cX5_weak 1 = .ok (.iconst 4, 1) := by decide +kernel
theorem dX5_weak_2 : decode cX5_weak 2 = .ok (.invokestatic 35, 3) := by decide +kernel
theorem dX5_weak_5 : decode cX5_weak 5 = .ok (.ifCond .ne 6, 3) := by decide +kernel
theorem dX5_weak_8 : decode cX5_weak 8 = .ok (.bipush (-2), 2) := by decide +kernel
theorem dX5_weak_10 : decode cX5_weak 10 = .ok (.ireturn, 1) := by decide +kernel
theorem dX5_weak_11 : decode cX5_weak 11 = .ok (.iconst 0, 1) := by decide +kernel
theorem dX5_weak_12 : decode cX5_weak 12 = .ok (.istore_n 2, 1) := by decide +kernel
theorem dX5_weak_13 : decode cX5_weak 13 = .ok (.iconst 0, 1) := by decide +kernel
theorem dX5_weak_14 : decode cX5_weak 14 = .ok (.istore_n 3, 1) := by decide +kernel
theorem dX5_weak_15 : decode cX5_weak 15 = .ok (.iload_n 3, 1) := by decide +kernel
theorem dX5_weak_16 : decode cX5_weak 16 = .ok (.iload_n 1, 1) := by decide +kernel
theorem dX5_weak_17 : decode cX5_weak 17 = .ok (.if_icmp .ge 25, 3) := by decide +kernel
theorem dX5_weak_20 : decode cX5_weak 20 = .ok (.iload_n 2, 1) := by decide +kernel
theorem dX5_weak_21 : decode cX5_weak 21 = .ok (.iconst 1, 1) := by decide +kernel
theorem dX5_weak_22 : decode cX5_weak 22 = .ok (.aload_n 0, 1) := by decide +kernel
theorem dX5_weak_23 : decode cX5_weak 23 = .ok (.getfield 19, 3) := by decide +kernel
theorem dX5_weak_26 : decode cX5_weak 26 = .ok (.getfield 124, 3) := by decide +kernel
theorem dX5_weak_29 : decode cX5_weak 29 = .ok (.iload_n 2, 1) := by decide +kernel
theorem dX5_weak_30 : decode cX5_weak 30 = .ok (.invokevirtual 133, 3) := by decide +kernel
theorem dX5_weak_33 : decode cX5_weak 33 = .ok (.ishl, 1) := by decide +kernel
theorem dX5_weak_34 : decode cX5_weak 34 = .ok (.ior, 1) := by decide +kernel
theorem dX5_weak_35 : decode cX5_weak 35 = .ok (.istore_n 2, 1) := by decide +kernel
theorem dX5_weak_36 : decode cX5_weak 36 = .ok (.iinc 3 1, 3) := by decide +kernel
theorem dX5_weak_39 : decode cX5_weak 39 = .ok (.goto (-24), 3) := by decide +kernel
theorem dX5_weak_42 : decode cX5_weak 42 = .ok (.aload_n 0, 1) := by decide +kernel
theorem dX5_weak_43 : decode cX5_weak 43 = .ok (.getfield 19, 3) := by decide +kernel
theorem dX5_weak_46 : decode cX5_weak 46 = .ok (.getfield 124, 3) := by decide +kernel
theorem dX5_weak_49 : decode cX5_weak 49 = .ok (.iload_n 2, 1) := by decide +kernel
theorem dX5_weak_50 : decode cX5_weak 50 = .ok (.invokevirtual 133, 3) := by decide +kernel
theorem dX5_weak_53 : decode cX5_weak 53 = .ok (.ireturn, 1) := by decide +kernel
set_option maxRecDepth 20000 in
theorem ggX5_chosen_X5_isBelow : GoodIn wsX5_chosen wsX5_isBelow := goodIn_r _ [7] (by decide +kernel) (by decide +kernel)
set_option maxRecDepth 20000 in
theorem gX5_chosen_X5_isBelow : GoodIn wsX5_chosen (va_wsS RX5 35 yX5_isBelow wsX5_isBelow) := goodIn_app (goodIn_of _ (by decide +kernel)) ggX5_chosen_X5_isBelow
set_option maxRecDepth 20000 in
theorem ggX5_chosen_X5_fillTries : GoodIn wsX5_chosen wsX5_fillTries := goodIn_r _ [11, 2, 3, 12, 13, 14, 15, 16, 17, 18, 19, 20, 21, 22, 23, 24, 25, 26, 27, 28, 29, 5, 6, 7, 45, 46, 47, 48, 49, 50, 51, 52, 53] (by decide +kernel) (by decide +kernel)
set_option maxRecDepth 20000 in
theorem gX5_chosen_X5_fillTries : GoodIn wsX5_chosen (wsV RX5 136 RX5 yX5_fillTries wsX5_fillTries) := goodIn_app (goodIn_of _ (by decide +kernel)) ggX5_chosen_X5_fillTries
set_option maxRecDepth 20000 in
theorem ggX5_chosen_X5_unlikeTries : GoodIn wsX5_chosen wsX5_unlikeTries := goodIn_r _ [33, 34, 35, 36, 6, 37, 2, 45, 46, 47, 48, 49] (by decide +kernel) (by decide +kernel)
set_option maxRecDepth 20000 in
theorem gX5_chosen_X5_unlikeTries : GoodIn wsX5_chosen (wsV RX5 139 RX5 yX5_unlikeTries wsX5_unlikeTries) := goodIn_app (goodIn_of _ (by decide +kernel)) ggX5_chosen_X5_unlikeTries
set_option maxRecDepth 20000 in
theorem ggX5_chosen_X5_bestTry : GoodIn wsX5_chosen wsX5_bestTry := goodIn_r _ [41, 3, 2, 42, 14, 43, 44, 17, 45, 46, 47, 48, 49, 50, 51, 52] (by decide +kernel) (by decide +kernel)
set_option maxRecDepth 20000 in
theorem gX5_chosen_X5_bestTry : GoodIn wsX5_chosen (wsV RX5 142 RX5 yX5_bestTry wsX5_bestTry) := goodIn_app (goodIn_of _ (by decide +kernel)) ggX5_chosen_X5_bestTry
set_option maxRecDepth 20000 in
theorem ggX5_chosen_X4_sum : GoodIn wsX5_chosen wsX4_sum := goodIn_r _ [44, 17, 52] (by decide +kernel) (by decide +kernel)
set_option maxRecDepth 20000 in
theorem gX5_chosen_X4_sum_n145 : GoodIn wsX5_chosen (wsX4_sum) := ggX5_chosen_X4_sum
theorem dX5_chosen_0 : decode cX5_chosen 0 = .ok (.iload_n 1, 1) := by decide +kernel
theorem dX5_chosen_1 : decode cX5_chosen 1 = .ok (.ldc 45, 2) := by decide +kernel
theorem dX5_chosen_3 : decode cX5_chosen 3 = .ok (.invokestatic 35, 3) := by decide +kernel
theorem dX5_chosen_6 : decode cX5_chosen 6 = .ok (.ifCond .eq 19, 3) := by decide +kernel
theorem dX5_chosen_9 : decode cX5_chosen 9 = .ok (.iload_n 2, 1) := by decide +kernel
theorem dX5_chosen_10 : decode cX5_chosen 10 = .ok (.iconst 5, 1) := by decide +kernel
theorem dX5_chosen_11 : decode cX5_chosen 11 = .ok (.invokestatic 35, 3) := by decide +kernel
theorem dX5_chosen_14 : decode cX5_chosen 14 = .ok (.ifCond .eq 11, 3) := by decide +kernel
theorem dX5_chosen_17 : decode cX5_chosen 17 = .ok (.iload_n 3, 1) := by decide +kernel
theorem dX5_chosen_18 : decode cX5_chosen 18 = .ok (.iconst 4, 1) := by decide +kernel
theorem dX5_chosen_19 : decode cX5_chosen 19 = .ok (.invokestatic 35, 3) := by decide +kernel
theorem dX5_chosen_22 : decode cX5_chosen 22 = .ok (.ifCond .ne 6, 3) := by decide +kernel
theorem dX5_chosen_25 : decode cX5_chosen 25 = .ok (.bipush (-2), 2) := by decide +kernel
theorem dX5_chosen_27 : decode cX5_chosen 27 = .ok (.ireturn, 1) := by decide +kernel
theorem dX5_chosen_28 : decode cX5_chosen 28 = .ok (.iconst 1, 1) := by decide +kernel
theorem dX5_chosen_29 : decode cX5_chosen 29 = .ok (.iload_n 2, 1) := by decide +kernel
theorem dX5_chosen_30 : decode cX5_chosen 30 = .ok (.ishl, 1) := by decide +kernel
theorem dX5_chosen_31 : decode cX5_chosen 31 = .ok (.istore 4, 2) := by decide +kernel
theorem dX5_chosen_33 : decode cX5_chosen 33 = .ok (.aload_n 0, 1) := by decide +kernel
theorem dX5_chosen_34 : decode cX5_chosen 34 = .ok (.iload_n 1, 1) := by decide +kernel
theorem dX5_chosen_35 : decode cX5_chosen 35 = .ok (.iload_n 2, 1) := by decide +kernel
theorem dX5_chosen_36 : decode cX5_chosen 36 = .ok (.invokevirtual 136, 3) := by decide +kernel
theorem dX5_chosen_39 : decode cX5_chosen 39 = .ok (.iload_n 3, 1) := by decide +kernel
theorem dX5_chosen_40 : decode cX5_chosen 40 = .ok (.iconst 3, 1) := by decide +kernel
theorem dX5_chosen_41 : decode cX5_chosen 41 = .ok (.if_icmp .ne 10, 3) := by decide +kernel
theorem dX5_chosen_44 : decode cX5_chosen 44 = .ok (.aload_n 0, 1) := by decide +kernel
theorem dX5_chosen_45 : decode cX5_chosen 45 = .ok (.iload 4, 2) := by decide +kernel
theorem dX5_chosen_47 : decode cX5_chosen 47 = .ok (.invokevirtual 139, 3) := by decide +kernel
theorem dX5_chosen_50 : decode cX5_chosen 50 = .ok (.ireturn, 1) := by decide +kernel
theorem dX5_chosen_51 : decode cX5_chosen 51 = .ok (.aload_n 0, 1) := by decide +kernel
theorem dX5_chosen_52 : decode cX5_chosen 52 = .ok (.iload_n 1, 1) := by decide +kernel
theorem dX5_chosen_53 : decode cX5_chosen 53 = .ok (.iload 4, 2) := by decide +kernel
theorem dX5_chosen_55 : decode cX5_chosen 55 = .ok (.invokevirtual 142, 3) := by decide +kernel
theorem dX5_chosen_58 : decode cX5_chosen 58 = .ok (.istore 5, 2) := by decide +kernel
theorem dX5_chosen_60 : decode cX5_chosen 60 = .ok (.iload_n 3, 1) := by decide +kernel
theorem dX5_chosen_61 : decode cX5_chosen 61 = .ok (.iconst 2, 1) := by decide +kernel
theorem dX5_chosen_62 : decode cX5_chosen 62 = .ok (.if_icmp .ne 6, 3) := by decide +kernel
theorem dX5_chosen_65 : decode cX5_chosen 65 = .ok (.iload 5, 2) := by decide +kernel
theorem dX5_chosen_67 : decode cX5_chosen 67 = .ok (.ireturn, 1) := by decide +kernel
theorem dX5_chosen_68 : decode cX5_chosen 68 = .ok (.iload_n 3, 1) := by decide +kernel
theorem dX5_chosen_69 : decode cX5_chosen 69 = .ok (.ifCond .ne 13, 3) := by decide +kernel
theorem dX5_chosen_72 : decode cX5_chosen 72 = .ok (.aload_n 0, 1) := by decide +kernel
theorem dX5_chosen_73 : decode cX5_chosen 73 = .ok (.getfield 31, 3) := by decide +kernel
theorem dX5_chosen_76 : decode cX5_chosen 76 = .ok (.iload 5, 2) := by decide +kernel
theorem dX5_chosen_78 : decode cX5_chosen 78 = .ok (.iaload, 1) := by decide +kernel
theorem dX5_chosen_79 : decode cX5_chosen 79 = .ok (.goto 22, 3) := by decide +kernel
theorem dX5_chosen_82 : decode cX5_chosen 82 = .ok (.aload_n 0, 1) := by decide +kernel
theorem dX5_chosen_83 : decode cX5_chosen 83 = .ok (.getfield 19, 3) := by decide +kernel
theorem dX5_chosen_86 : decode cX5_chosen 86 = .ok (.getfield 124, 3) := by decide +kernel
theorem dX5_chosen_89 : decode cX5_chosen 89 = .ok (.aload_n 0, 1) := by decide +kernel
theorem dX5_chosen_90 : decode cX5_chosen 90 = .ok (.getfield 31, 3) := by decide +kernel
theorem dX5_chosen_93 : decode cX5_chosen 93 = .ok (.iload 5, 2) := by decide +kernel
theorem dX5_chosen_95 : decode cX5_chosen 95 = .ok (.iaload, 1) := by decide +kernel
theorem dX5_chosen_96 : decode cX5_chosen 96 = .ok (.iload_n 1, 1) := by decide +kernel
theorem dX5_chosen_97 : decode cX5_chosen 97 = .ok (.ixor, 1) := by decide +kernel
theorem dX5_chosen_98 : decode cX5_chosen 98 = .ok (.invokevirtual 145, 3) := by decide +kernel
theorem dX5_chosen_101 : decode cX5_chosen 101 = .ok (.ireturn, 1) := by decide +kernel
set_option maxRecDepth 20000 in
theorem ggX5_image_X5_isBelow : GoodIn wsX5_image wsX5_isBelow := goodIn_r _ [7] (by decide +kernel) (by decide +kernel)
set_option maxRecDepth 20000 in
theorem gX5_image_X5_isBelow : GoodIn wsX5_image (va_wsS RX5 35 yX5_isBelow wsX5_isBelow) := goodIn_app (goodIn_of _ (by decide +kernel)) ggX5_image_X5_isBelow
set_option maxRecDepth 20000 in
theorem ggX5_image_X1_copyFrom : GoodIn wsX5_image wsX1_copyFrom := goodIn_r _ [11, 12, 13, 14, 15, 16, 17, 18, 19, 20, 21, 22, 23, 24, 25, 26, 32, 33, 34, 35, 36, 37, 38] (by decide +kernel) (by decide +kernel)
set_option maxRecDepth 20000 in
theorem gX5_image_X1_copyFrom_n148 : GoodIn wsX5_image (wsX1_copyFrom) := ggX5_image_X1_copyFrom
theorem dX5_image_0 : decode cX5_image 0 = .ok (.iload_n 1, 1) := by decide +kernel
theorem dX5_image_1 : decode cX5_image 1 = .ok (.iconst 2, 1) := by decide +kernel
theorem dX5_image_2 : decode cX5_image 2 = .ok (.invokestatic 35, 3) := by decide +kernel
theorem dX5_image_5 : decode cX5_image 5 = .ok (.ifCond .ne 6, 3) := by decide +kernel
theorem dX5_image_8 : decode cX5_image 8 = .ok (.bipush (-2), 2) := by decide +kernel
theorem dX5_image_10 : decode cX5_image 10 = .ok (.ireturn, 1) := by decide +kernel
theorem dX5_image_11 : decode cX5_image 11 = .ok (.aload_n 0, 1) := by decide +kernel
theorem dX5_image_12 : decode cX5_image 12 = .ok (.getfield 23, 3) := by decide +kernel
theorem dX5_image_15 : decode cX5_image 15 = .ok (.iload_n 1, 1) := by decide +kernel
theorem dX5_image_16 : decode cX5_image 16 = .ok (.aaload, 1) := by decide +kernel
theorem dX5_image_17 : decode cX5_image 17 = .ok (.aload_n 0, 1) := by decide +kernel
theorem dX5_image_18 : decode cX5_image 18 = .ok (.getfield 19, 3) := by decide +kernel
theorem dX5_image_21 : decode cX5_image 21 = .ok (.invokevirtual 148, 3) := by decide +kernel
theorem dX5_image_24 : decode cX5_image 24 = .ok (.aload_n 0, 1) := by decide +kernel
theorem dX5_image_25 : decode cX5_image 25 = .ok (.dup, 1) := by decide +kernel
theorem dX5_image_26 : decode cX5_image 26 = .ok (.getfield 27, 3) := by decide +kernel
theorem dX5_image_29 : decode cX5_image 29 = .ok (.iconst 1, 1) := by decide +kernel
theorem dX5_image_30 : decode cX5_image 30 = .ok (.iload_n 1, 1) := by decide +kernel
theorem dX5_image_31 : decode cX5_image 31 = .ok (.ishl, 1) := by decide +kernel
theorem dX5_image_32 : decode cX5_image 32 = .ok (.ior, 1) := by decide +kernel
theorem dX5_image_33 : decode cX5_image 33 = .ok (.putfield 27, 3) := by decide +kernel
theorem dX5_image_36 : decode cX5_image 36 = .ok (.iconst 1, 1) := by decide +kernel
theorem dX5_image_37 : decode cX5_image 37 = .ok (.ireturn, 1) := by decide +kernel
set_option maxRecDepth 20000 in
theorem ggX5_restore_X5_isBelow : GoodIn wsX5_restore wsX5_isBelow := goodIn_r _ [7] (by decide +kernel) (by decide +kernel)
set_option maxRecDepth 20000 in
theorem gX5_restore_X5_isBelow : GoodIn wsX5_restore (va_wsS RX5 35 yX5_isBelow wsX5_isBelow) := goodIn_app (goodIn_of _ (by decide +kernel)) ggX5_restore_X5_isBelow
set_option maxRecDepth 20000 in
theorem ggX5_restore_X1_copyFrom : GoodIn wsX5_restore wsX1_copyFrom := goodIn_r _ [11, 12, 13, 14, 15, 16, 17, 18, 19, 20, 21, 22, 23, 24, 25, 26, 32, 33, 34, 35, 36, 37, 38] (by decide +kernel) (by decide +kernel)
set_option maxRecDepth 20000 in
theorem gX5_restore_X1_copyFrom_n148 : GoodIn wsX5_restore (wsX1_copyFrom) := ggX5_restore_X1_copyFrom
theorem dX5_restore_0 : decode cX5_restore 0 = .ok (.iload_n 1, 1) := by decide +kernel
theorem dX5_restore_1 : decode cX5_restore 1 = .ok (.iconst 2, 1) := by decide +kernel
theorem dX5_restore_2 : decode cX5_restore 2 = .ok (.invokestatic 35, 3) := by decide +kernel
theorem dX5_restore_5 : decode cX5_restore 5 = .ok (.ifCond .ne 6, 3) := by decide +kernel
theorem dX5_restore_8 : decode cX5_restore 8 = .ok (.bipush (-2), 2) := by decide +kernel
theorem dX5_restore_10 : decode cX5_restore 10 = .ok (.ireturn, 1) := by decide +kernel
theorem dX5_restore_11 : decode cX5_restore 11 = .ok (.aload_n 0, 1) := by decide +kernel
theorem dX5_restore_12 : decode cX5_restore 12 = .ok (.getfield 27, 3) := by decide +kernel
theorem dX5_restore_15 : decode cX5_restore 15 = .ok (.iload_n 1, 1) := by decide +kernel
theorem dX5_restore_16 : decode cX5_restore 16 = .ok (.iushr, 1) := by decide +kernel
theorem dX5_restore_17 : decode cX5_restore 17 = .ok (.iconst 1, 1) := by decide +kernel
theorem dX5_restore_18 : decode cX5_restore 18 = .ok (.iand, 1) := by decide +kernel
theorem dX5_restore_19 : decode cX5_restore 19 = .ok (.ifCond .ne 6, 3) := by decide +kernel
theorem dX5_restore_22 : decode cX5_restore 22 = .ok (.bipush (-3), 2) := by decide +kernel
theorem dX5_restore_24 : decode cX5_restore 24 = .ok (.ireturn, 1) := by decide +kernel
theorem dX5_restore_25 : decode cX5_restore 25 = .ok (.aload_n 0, 1) := by decide +kernel
theorem dX5_restore_26 : decode cX5_restore 26 = .ok (.getfield 19, 3) := by decide +kernel
theorem dX5_restore_29 : decode cX5_restore 29 = .ok (.aload_n 0, 1) := by decide +kernel
theorem dX5_restore_30 : decode cX5_restore 30 = .ok (.getfield 23, 3) := by decide +kernel
theorem dX5_restore_33 : decode cX5_restore 33 = .ok (.iload_n 1, 1) := by decide +kernel
theorem dX5_restore_34 : decode cX5_restore 34 = .ok (.aaload, 1) := by decide +kernel
theorem dX5_restore_35 : decode cX5_restore 35 = .ok (.invokevirtual 148, 3) := by decide +kernel
theorem dX5_restore_38 : decode cX5_restore 38 = .ok (.iconst 1, 1) := by decide +kernel
theorem dX5_restore_39 : decode cX5_restore 39 = .ok (.ireturn, 1) := by decide +kernel
set_option maxRecDepth 20000 in
theorem ggX5_count_X4_sum : GoodIn wsX5_count wsX4_sum := goodIn_r _ [7, 8, 28] (by decide +kernel) (by decide +kernel)
set_option maxRecDepth 20000 in
theorem gX5_count_X4_sum_n145 : GoodIn wsX5_count (wsX4_sum) := ggX5_count_X4_sum
set_option maxRecDepth 20000 in
theorem ggX5_count_X5_codeWordsAt : GoodIn wsX5_count wsX5_codeWordsAt := goodIn_r _ [12, 13, 14, 15, 11, 16] (by decide +kernel) (by decide +kernel)
set_option maxRecDepth 20000 in
theorem gX5_count_X5_codeWordsAt : GoodIn wsX5_count (va_wsS RX5 63 yX5_codeWordsAt wsX5_codeWordsAt) := goodIn_app (goodIn_of _ (by decide +kernel)) ggX5_count_X5_codeWordsAt
theorem dX5_count_0 : decode cX5_count 0 = .ok (.iload_n 1, 1) := by decide +kernel
theorem dX5_count_1 : decode cX5_count 1 = .ok (.ifCond .ne 14, 3) := by decide +kernel
theorem dX5_count_4 : decode cX5_count 4 = .ok (.aload_n 0, 1) := by decide +kernel
theorem dX5_count_5 : decode cX5_count 5 = .ok (.getfield 19, 3) := by decide +kernel
theorem dX5_count_8 : decode cX5_count 8 = .ok (.getfield 91, 3) := by decide +kernel
theorem dX5_count_11 : decode cX5_count 11 = .ok (.getfield 95, 3) := by decide +kernel
theorem dX5_count_14 : decode cX5_count 14 = .ok (.ireturn, 1) := by decide +kernel
theorem dX5_count_15 : decode cX5_count 15 = .ok (.iload_n 1, 1) := by decide +kernel
theorem dX5_count_16 : decode cX5_count 16 = .ok (.iconst 1, 1) := by decide +kernel
theorem dX5_count_17 : decode cX5_count 17 = .ok (.if_icmp .ne 16, 3) := by decide +kernel
theorem dX5_count_20 : decode cX5_count 20 = .ok (.aload_n 0, 1) := by decide +kernel
theorem dX5_count_21 : decode cX5_count 21 = .ok (.getfield 19, 3) := by decide +kernel
theorem dX5_count_24 : decode cX5_count 24 = .ok (.getfield 124, 3) := by decide +kernel
theorem dX5_count_27 : decode cX5_count 27 = .ok (.ldc 80, 2) := by decide +kernel
theorem dX5_count_29 : decode cX5_count 29 = .ok (.invokevirtual 145, 3) := by decide +kernel
theorem dX5_count_32 : decode cX5_count 32 = .ok (.ireturn, 1) := by decide +kernel
theorem dX5_count_33 : decode cX5_count 33 = .ok (.iload_n 1, 1) := by decide +kernel
theorem dX5_count_34 : decode cX5_count 34 = .ok (.iconst 2, 1) := by decide +kernel
theorem dX5_count_35 : decode cX5_count 35 = .ok (.if_icmp .ne 8, 3) := by decide +kernel
theorem dX5_count_38 : decode cX5_count 38 = .ok (.aload_n 0, 1) := by decide +kernel
theorem dX5_count_39 : decode cX5_count 39 = .ok (.getfield 27, 3) := by decide +kernel
theorem dX5_count_42 : decode cX5_count 42 = .ok (.ireturn, 1) := by decide +kernel
theorem dX5_count_43 : decode cX5_count 43 = .ok (.iload_n 1, 1) := by decide +kernel
theorem dX5_count_44 : decode cX5_count 44 = .ok (.bipush 10, 2) := by decide +kernel
theorem dX5_count_46 : decode cX5_count 46 = .ok (.if_icmp .lt 18, 3) := by decide +kernel
theorem dX5_count_49 : decode cX5_count 49 = .ok (.iload_n 1, 1) := by decide +kernel
theorem dX5_count_50 : decode cX5_count 50 = .ok (.bipush 34, 2) := by decide +kernel
theorem dX5_count_52 : decode cX5_count 52 = .ok (.if_icmp .ge 12, 3) := by decide +kernel
theorem dX5_count_55 : decode cX5_count 55 = .ok (.iconst 0, 1) := by decide +kernel
theorem dX5_count_56 : decode cX5_count 56 = .ok (.iload_n 1, 1) := by decide +kernel
theorem dX5_count_57 : decode cX5_count 57 = .ok (.bipush 10, 2) := by decide +kernel
theorem dX5_count_59 : decode cX5_count 59 = .ok (.isub, 1) := by decide +kernel
theorem dX5_count_60 : decode cX5_count 60 = .ok (.invokestatic 63, 3) := by decide +kernel
theorem dX5_count_63 : decode cX5_count 63 = .ok (.ireturn, 1) := by decide +kernel
theorem dX5_count_64 : decode cX5_count 64 = .ok (.iload_n 1, 1) := by decide +kernel
theorem dX5_count_65 : decode cX5_count 65 = .ok (.bipush 40, 2) := by decide +kernel
theorem dX5_count_67 : decode cX5_count 67 = .ok (.if_icmp .lt 25, 3) := by decide +kernel
theorem dX5_count_70 : decode cX5_count 70 = .ok (.iload_n 1, 1) := by decide +kernel
theorem dX5_count_71 : decode cX5_count 71 = .ok (.bipush 63, 2) := by decide +kernel
theorem dX5_count_73 : decode cX5_count 73 = .ok (.if_icmp .ge 19, 3) := by decide +kernel
theorem dX5_count_76 : decode cX5_count 76 = .ok (.aload_n 0, 1) := by decide +kernel
theorem dX5_count_77 : decode cX5_count 77 = .ok (.getfield 19, 3) := by decide +kernel
theorem dX5_count_80 : decode cX5_count 80 = .ok (.getfield 124, 3) := by decide +kernel
theorem dX5_count_83 : decode cX5_count 83 = .ok (.getfield 128, 3) := by decide +kernel
theorem dX5_count_86 : decode cX5_count 86 = .ok (.iload_n 1, 1) := by decide +kernel
theorem dX5_count_87 : decode cX5_count 87 = .ok (.bipush 40, 2) := by decide +kernel
theorem dX5_count_89 : decode cX5_count 89 = .ok (.isub, 1) := by decide +kernel
theorem dX5_count_90 : decode cX5_count 90 = .ok (.iaload, 1) := by decide +kernel
theorem dX5_count_91 : decode cX5_count 91 = .ok (.ireturn, 1) := by decide +kernel
theorem dX5_count_92 : decode cX5_count 92 = .ok (.bipush (-2), 2) := by decide +kernel
theorem dX5_count_94 : decode cX5_count 94 = .ok (.ireturn, 1) := by decide +kernel
theorem dX5_isBelow_0 : decode cX5_isBelow 0 = .ok (.iload_n 0, 1) := by decide +kernel
theorem dX5_isBelow_1 : decode cX5_isBelow 1 = .ok (.ifCond .lt 12, 3) := by decide +kernel
theorem dX5_isBelow_4 : decode cX5_isBelow 4 = .ok (.iload_n 0, 1) := by decide +kernel
theorem dX5_isBelow_5 : decode cX5_isBelow 5 = .ok (.iload_n 1, 1) := by decide +kernel
theorem dX5_isBelow_6 : decode cX5_isBelow 6 = .ok (.if_icmp .ge 7, 3) := by decide +kernel
theorem dX5_isBelow_9 : decode cX5_isBelow 9 = .ok (.iconst 1, 1) := by decide +kernel
theorem dX5_isBelow_10 : decode cX5_isBelow 10 = .ok (.goto 4, 3) := by decide +kernel
theorem dX5_isBelow_13 : decode cX5_isBelow 13 = .ok (.iconst 0, 1) := by decide +kernel
theorem dX5_isBelow_14 : decode cX5_isBelow 14 = .ok (.ireturn, 1) := by decide +kernel
set_option maxRecDepth 20000 in
theorem ggX5_isMove_X5_isBelow : GoodIn wsX5_isMove wsX5_isBelow := goodIn_r _ [4] (by decide +kernel) (by decide +kernel)
set_option maxRecDepth 20000 in
theorem gX5_isMove_X5_isBelow : GoodIn wsX5_isMove (va_wsS RX5 35 yX5_isBelow wsX5_isBelow) := goodIn_app (goodIn_of _ (by decide +kernel)) ggX5_isMove_X5_isBelow
theorem dX5_isMove_0 : decode cX5_isMove 0 = .ok (.iload_n 0, 1) := by decide +kernel
theorem dX5_isMove_1 : decode cX5_isMove 1 = .ok (.ifCond .eq 25, 3) := by decide +kernel
theorem dX5_isMove_4 : decode cX5_isMove 4 = .ok (.iload_n 0, 1) := by decide +kernel
theorem dX5_isMove_5 : decode cX5_isMove 5 = .ok (.bipush 23, 2) := by decide +kernel
theorem dX5_isMove_7 : decode cX5_isMove 7 = .ok (.invokestatic 35, 3) := by decide +kernel
theorem dX5_isMove_10 : decode cX5_isMove 10 = .ok (.ifCond .eq 16, 3) := by decide +kernel
theorem dX5_isMove_13 : decode cX5_isMove 13 = .ok (.iload_n 1, 1) := by decide +kernel
theorem dX5_isMove_14 : decode cX5_isMove 14 = .ok (.bipush 23, 2) := by decide +kernel
theorem dX5_isMove_16 : decode cX5_isMove 16 = .ok (.invokestatic 35, 3) := by decide +kernel
theorem dX5_isMove_19 : decode cX5_isMove 19 = .ok (.ifCond .eq 7, 3) := by decide +kernel
theorem dX5_isMove_22 : decode cX5_isMove 22 = .ok (.iconst 1, 1) := by decide +kernel
theorem dX5_isMove_23 : decode cX5_isMove 23 = .ok (.goto 4, 3) := by decide +kernel
theorem dX5_isMove_26 : decode cX5_isMove 26 = .ok (.iconst 0, 1) := by decide +kernel
theorem dX5_isMove_27 : decode cX5_isMove 27 = .ok (.ireturn, 1) := by decide +kernel
set_option maxRecDepth 20000 in
theorem ggX5_codeWordsAt_X5_isBelow : GoodIn wsX5_codeWordsAt wsX5_isBelow := goodIn_r _ [5] (by decide +kernel) (by decide +kernel)
set_option maxRecDepth 20000 in
theorem gX5_codeWordsAt_X5_isBelow : GoodIn wsX5_codeWordsAt (va_wsS RX5 35 yX5_isBelow wsX5_isBelow) := goodIn_app (goodIn_of _ (by decide +kernel)) ggX5_codeWordsAt_X5_isBelow
theorem dX5_codeWordsAt_0 : decode cX5_codeWordsAt 0 = .ok (.iload_n 0, 1) := by decide +kernel
theorem dX5_codeWordsAt_1 : decode cX5_codeWordsAt 1 = .ok (.iconst 4, 1) := by decide +kernel
theorem dX5_codeWordsAt_2 : decode cX5_codeWordsAt 2 = .ok (.invokestatic 35, 3) := by decide +kernel
theorem dX5_codeWordsAt_5 : decode cX5_codeWordsAt 5 = .ok (.ifCond .eq 12, 3) := by decide +kernel
theorem dX5_codeWordsAt_8 : decode cX5_codeWordsAt 8 = .ok (.iload_n 1, 1) := by decide +kernel
theorem dX5_codeWordsAt_9 : decode cX5_codeWordsAt 9 = .ok (.bipush 24, 2) := by decide +kernel
theorem dX5_codeWordsAt_11 : decode cX5_codeWordsAt 11 = .ok (.invokestatic 35, 3) := by decide +kernel
theorem dX5_codeWordsAt_14 : decode cX5_codeWordsAt 14 = .ok (.ifCond .ne 5, 3) := by decide +kernel
theorem dX5_codeWordsAt_17 : decode cX5_codeWordsAt 17 = .ok (.iconst 0, 1) := by decide +kernel
theorem dX5_codeWordsAt_18 : decode cX5_codeWordsAt 18 = .ok (.ireturn, 1) := by decide +kernel
theorem dX5_codeWordsAt_19 : decode cX5_codeWordsAt 19 = .ok (.getstatic 152, 3) := by decide +kernel
theorem dX5_codeWordsAt_22 : decode cX5_codeWordsAt 22 = .ok (.iload_n 0, 1) := by decide +kernel
theorem dX5_codeWordsAt_23 : decode cX5_codeWordsAt 23 = .ok (.bipush 24, 2) := by decide +kernel
theorem dX5_codeWordsAt_25 : decode cX5_codeWordsAt 25 = .ok (.imul, 1) := by decide +kernel
theorem dX5_codeWordsAt_26 : decode cX5_codeWordsAt 26 = .ok (.iload_n 1, 1) := by decide +kernel
theorem dX5_codeWordsAt_27 : decode cX5_codeWordsAt 27 = .ok (.iadd, 1) := by decide +kernel
theorem dX5_codeWordsAt_28 : decode cX5_codeWordsAt 28 = .ok (.iaload, 1) := by decide +kernel
theorem dX5_codeWordsAt_29 : decode cX5_codeWordsAt 29 = .ok (.ireturn, 1) := by decide +kernel
set_option maxRecDepth 20000 in
theorem ggX5_fillTries_X4_weakestBut : GoodIn wsX5_fillTries wsX4_weakestBut := goodIn_r _ [7, 8, 31] (by decide +kernel) (by decide +kernel)
set_option maxRecDepth 20000 in
theorem gX5_fillTries_X4_weakestBut_n133 : GoodIn wsX5_fillTries (wsX4_weakestBut) := ggX5_fillTries_X4_weakestBut
set_option maxRecDepth 20000 in
theorem ggX5_fillTries_X2_nearest : GoodIn wsX5_fillTries wsX2_nearest := goodIn_r _ [12, 13, 14, 15, 10, 16, 17, 18, 19, 20, 21, 22, 23, 32] (by decide +kernel) (by decide +kernel)
set_option maxRecDepth 20000 in
theorem gX5_fillTries_X2_nearest_n54 : GoodIn wsX5_fillTries (wsX2_nearest) := ggX5_fillTries_X2_nearest
theorem dX5_fillTries_0 : decode cX5_fillTries 0 = .ok (.aload_n 0, 1) := by decide +kernel
theorem dX5_fillTries_1 : decode cX5_fillTries 1 = .ok (.getfield 31, 3) := by decide +kernel
theorem dX5_fillTries_4 : decode cX5_fillTries 4 = .ok (.iconst 0, 1) := by decide +kernel
theorem dX5_fillTries_5 : decode cX5_fillTries 5 = .ok (.iload_n 1, 1) := by decide +kernel
theorem dX5_fillTries_6 : decode cX5_fillTries 6 = .ok (.iastore, 1) := by decide +kernel
theorem dX5_fillTries_7 : decode cX5_fillTries 7 = .ok (.iconst 0, 1) := by decide +kernel
theorem dX5_fillTries_8 : decode cX5_fillTries 8 = .ok (.istore_n 3, 1) := by decide +kernel
theorem dX5_fillTries_9 : decode cX5_fillTries 9 = .ok (.iconst 0, 1) := by decide +kernel
theorem dX5_fillTries_10 : decode cX5_fillTries 10 = .ok (.istore 4, 2) := by decide +kernel
theorem dX5_fillTries_12 : decode cX5_fillTries 12 = .ok (.iload 4, 2) := by decide +kernel
theorem dX5_fillTries_14 : decode cX5_fillTries 14 = .ok (.iload_n 2, 1) := by decide +kernel
theorem dX5_fillTries_15 : decode cX5_fillTries 15 = .ok (.if_icmp .ge 77, 3) := by decide +kernel
theorem dX5_fillTries_18 : decode cX5_fillTries 18 = .ok (.iload 4, 2) := by decide +kernel
theorem dX5_fillTries_20 : decode cX5_fillTries 20 = .ok (.iconst 4, 1) := by decide +kernel
theorem dX5_fillTries_21 : decode cX5_fillTries 21 = .ok (.if_icmp .ge 71, 3) := by decide +kernel
theorem dX5_fillTries_24 : decode cX5_fillTries 24 = .ok (.iconst 1, 1) := by decide +kernel
theorem dX5_fillTries_25 : decode cX5_fillTries 25 = .ok (.aload_n 0, 1) := by decide +kernel
theorem dX5_fillTries_26 : decode cX5_fillTries 26 = .ok (.getfield 19, 3) := by decide +kernel
theorem dX5_fillTries_29 : decode cX5_fillTries 29 = .ok (.getfield 124, 3) := by decide +kernel
theorem dX5_fillTries_32 : decode cX5_fillTries 32 = .ok (.iload_n 3, 1) := by decide +kernel
theorem dX5_fillTries_33 : decode cX5_fillTries 33 = .ok (.invokevirtual 133, 3) := by decide +kernel
theorem dX5_fillTries_36 : decode cX5_fillTries 36 = .ok (.ishl, 1) := by decide +kernel
theorem dX5_fillTries_37 : decode cX5_fillTries 37 = .ok (.istore 5, 2) := by decide +kernel
theorem dX5_fillTries_39 : decode cX5_fillTries 39 = .ok (.iconst 1, 1) := by decide +kernel
theorem dX5_fillTries_40 : decode cX5_fillTries 40 = .ok (.iload 4, 2) := by decide +kernel
theorem dX5_fillTries_42 : decode cX5_fillTries 42 = .ok (.ishl, 1) := by decide +kernel
theorem dX5_fillTries_43 : decode cX5_fillTries 43 = .ok (.istore 6, 2) := by decide +kernel
theorem dX5_fillTries_45 : decode cX5_fillTries 45 = .ok (.iconst 0, 1) := by decide +kernel
theorem dX5_fillTries_46 : decode cX5_fillTries 46 = .ok (.istore 7, 2) := by decide +kernel
theorem dX5_fillTries_48 : decode cX5_fillTries 48 = .ok (.iload 7, 2) := by decide +kernel
theorem dX5_fillTries_50 : decode cX5_fillTries 50 = .ok (.iload 6, 2) := by decide +kernel
theorem dX5_fillTries_52 : decode cX5_fillTries 52 = .ok (.if_icmp .ge 29, 3) := by decide +kernel
theorem dX5_fillTries_55 : decode cX5_fillTries 55 = .ok (.aload_n 0, 1) := by decide +kernel
theorem dX5_fillTries_56 : decode cX5_fillTries 56 = .ok (.getfield 31, 3) := by decide +kernel
theorem dX5_fillTries_59 : decode cX5_fillTries 59 = .ok (.iload 6, 2) := by decide +kernel
theorem dX5_fillTries_61 : decode cX5_fillTries 61 = .ok (.iload 7, 2) := by decide +kernel
theorem dX5_fillTries_63 : decode cX5_fillTries 63 = .ok (.iadd, 1) := by decide +kernel
