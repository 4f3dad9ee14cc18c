theorem dX6_isPlace_2 : decode cX6_isPlace 2 = .ok (.bipush 22, 2) := by decide +kernel
theorem dX6_isPlace_4 : decode cX6_isPlace 4 = .ok (.invokestatic 35, 3) := by decide +kernel
theorem dX6_isPlace_7 : decode cX6_isPlace 7 = .ok (.ireturn, 1) := by decide +kernel
set_option maxRecDepth 20000 in
theorem ggX6_sure_X6_isPlace : GoodIn wsX6_sure wsX6_isPlace := goodIn_r _ [5, 6, 7, 4, 8] (by decide +kernel) (by decide +kernel)
set_option maxRecDepth 20000 in
theorem gX6_sure_X6_isPlace : GoodIn wsX6_sure (va_wsS RX6 103 yX6_isPlace wsX6_isPlace) := goodIn_app (goodIn_of _ (by decide +kernel)) ggX6_sure_X6_isPlace
set_option maxRecDepth 20000 in
theorem ggX6_sure_X6_in : GoodIn wsX6_sure wsX6_in := goodIn_r _ [8] (by decide +kernel) (by decide +kernel)
set_option maxRecDepth 20000 in
theorem gX6_sure_X6_in : GoodIn wsX6_sure (va_wsS RX6 35 yX6_in wsX6_in) := goodIn_app (goodIn_of _ (by decide +kernel)) ggX6_sure_X6_in
theorem dX6_sure_0 : decode cX6_sure 0 = .ok (.iload_n 1, 1) := by decide +kernel
theorem dX6_sure_1 : decode cX6_sure 1 = .ok (.invokestatic 103, 3) := by decide +kernel
theorem dX6_sure_4 : decode cX6_sure 4 = .ok (.ifCond .eq 13, 3) := by decide +kernel
theorem dX6_sure_7 : decode cX6_sure 7 = .ok (.iload_n 2, 1) := by decide +kernel
theorem dX6_sure_8 : decode cX6_sure 8 = .ok (.iconst 0, 1) := by decide +kernel
theorem dX6_sure_9 : decode cX6_sure 9 = .ok (.bipush 9, 2) := by decide +kernel
theorem dX6_sure_11 : decode cX6_sure 11 = .ok (.invokestatic 35, 3) := by decide +kernel
theorem dX6_sure_14 : decode cX6_sure 14 = .ok (.ifCond .ne 6, 3) := by decide +kernel
theorem dX6_sure_17 : decode cX6_sure 17 = .ok (.bipush (-2), 2) := by decide +kernel
theorem dX6_sure_19 : decode cX6_sure 19 = .ok (.ireturn, 1) := by decide +kernel
theorem dX6_sure_20 : decode cX6_sure 20 = .ok (.aload_n 0, 1) := by decide +kernel
theorem dX6_sure_21 : decode cX6_sure 21 = .ok (.getfield 7, 3) := by decide +kernel
theorem dX6_sure_24 : decode cX6_sure 24 = .ok (.bipush 17, 2) := by decide +kernel
theorem dX6_sure_26 : decode cX6_sure 26 = .ok (.iload_n 1, 1) := by decide +kernel
theorem dX6_sure_27 : decode cX6_sure 27 = .ok (.iadd, 1) := by decide +kernel
theorem dX6_sure_28 : decode cX6_sure 28 = .ok (.iaload, 1) := by decide +kernel
theorem dX6_sure_29 : decode cX6_sure 29 = .ok (.istore_n 3, 1) := by decide +kernel
theorem dX6_sure_30 : decode cX6_sure 30 = .ok (.aload_n 0, 1) := by decide +kernel
theorem dX6_sure_31 : decode cX6_sure 31 = .ok (.getfield 7, 3) := by decide +kernel
theorem dX6_sure_34 : decode cX6_sure 34 = .ok (.bipush 17, 2) := by decide +kernel
theorem dX6_sure_36 : decode cX6_sure 36 = .ok (.iload_n 1, 1) := by decide +kernel
theorem dX6_sure_37 : decode cX6_sure 37 = .ok (.iadd, 1) := by decide +kernel
theorem dX6_sure_38 : decode cX6_sure 38 = .ok (.iload_n 2, 1) := by decide +kernel
theorem dX6_sure_39 : decode cX6_sure 39 = .ok (.iastore, 1) := by decide +kernel
theorem dX6_sure_40 : decode cX6_sure 40 = .ok (.iload_n 3, 1) := by decide +kernel
theorem dX6_sure_41 : decode cX6_sure 41 = .ok (.ireturn, 1) := by decide +kernel
theorem dX6_weakAt_0 : decode cX6_weakAt 0 = .ok (.bipush (-6), 2) := by decide +kernel
theorem dX6_weakAt_2 : decode cX6_weakAt 2 = .ok (.istore_n 2, 1) := by decide +kernel
theorem dX6_weakAt_3 : decode cX6_weakAt 3 = .ok (.iconst 0, 1) := by decide +kernel
theorem dX6_weakAt_4 : decode cX6_weakAt 4 = .ok (.istore_n 3, 1) := by decide +kernel
theorem dX6_weakAt_5 : decode cX6_weakAt 5 = .ok (.iload_n 3, 1) := by decide +kernel
theorem dX6_weakAt_6 : decode cX6_weakAt 6 = .ok (.bipush 23, 2) := by decide +kernel
theorem dX6_weakAt_8 : decode cX6_weakAt 8 = .ok (.if_icmp .ge 112, 3) := by decide +kernel
theorem dX6_weakAt_11 : decode cX6_weakAt 11 = .ok (.iconst 0, 1) := by decide +kernel
theorem dX6_weakAt_12 : decode cX6_weakAt 12 = .ok (.istore 4, 2) := by decide +kernel
theorem dX6_weakAt_14 : decode cX6_weakAt 14 = .ok (.iconst 0, 1) := by decide +kernel
theorem dX6_weakAt_15 : decode cX6_weakAt 15 = .ok (.istore 5, 2) := by decide +kernel
theorem dX6_weakAt_17 : decode cX6_weakAt 17 = .ok (.iload 5, 2) := by decide +kernel
theorem dX6_weakAt_19 : decode cX6_weakAt 19 = .ok (.bipush 23, 2) := by decide +kernel
theorem dX6_weakAt_21 : decode cX6_weakAt 21 = .ok (.if_icmp .ge 81, 3) := by decide +kernel
theorem dX6_weakAt_24 : decode cX6_weakAt 24 = .ok (.aload_n 0, 1) := by decide +kernel
theorem dX6_weakAt_25 : decode cX6_weakAt 25 = .ok (.getfield 7, 3) := by decide +kernel
theorem dX6_weakAt_28 : decode cX6_weakAt 28 = .ok (.bipush 17, 2) := by decide +kernel
theorem dX6_weakAt_30 : decode cX6_weakAt 30 = .ok (.iload 5, 2) := by decide +kernel
theorem dX6_weakAt_32 : decode cX6_weakAt 32 = .ok (.iadd, 1) := by decide +kernel
theorem dX6_weakAt_33 : decode cX6_weakAt 33 = .ok (.iaload, 1) := by decide +kernel
theorem dX6_weakAt_34 : decode cX6_weakAt 34 = .ok (.aload_n 0, 1) := by decide +kernel
theorem dX6_weakAt_35 : decode cX6_weakAt 35 = .ok (.getfield 7, 3) := by decide +kernel
theorem dX6_weakAt_38 : decode cX6_weakAt 38 = .ok (.bipush 17, 2) := by decide +kernel
theorem dX6_weakAt_40 : decode cX6_weakAt 40 = .ok (.iload_n 3, 1) := by decide +kernel
theorem dX6_weakAt_41 : decode cX6_weakAt 41 = .ok (.iadd, 1) := by decide +kernel
theorem dX6_weakAt_42 : decode cX6_weakAt 42 = .ok (.iaload, 1) := by decide +kernel
theorem dX6_weakAt_43 : decode cX6_weakAt 43 = .ok (.if_icmp .lt 31, 3) := by decide +kernel
theorem dX6_weakAt_46 : decode cX6_weakAt 46 = .ok (.aload_n 0, 1) := by decide +kernel
theorem dX6_weakAt_47 : decode cX6_weakAt 47 = .ok (.getfield 7, 3) := by decide +kernel
theorem dX6_weakAt_50 : decode cX6_weakAt 50 = .ok (.bipush 17, 2) := by decide +kernel
theorem dX6_weakAt_52 : decode cX6_weakAt 52 = .ok (.iload 5, 2) := by decide +kernel
theorem dX6_weakAt_54 : decode cX6_weakAt 54 = .ok (.iadd, 1) := by decide +kernel
theorem dX6_weakAt_55 : decode cX6_weakAt 55 = .ok (.iaload, 1) := by decide +kernel
theorem dX6_weakAt_56 : decode cX6_weakAt 56 = .ok (.aload_n 0, 1) := by decide +kernel
theorem dX6_weakAt_57 : decode cX6_weakAt 57 = .ok (.getfield 7, 3) := by decide +kernel
theorem dX6_weakAt_60 : decode cX6_weakAt 60 = .ok (.bipush 17, 2) := by decide +kernel
theorem dX6_weakAt_62 : decode cX6_weakAt 62 = .ok (.iload_n 3, 1) := by decide +kernel
theorem dX6_weakAt_63 : decode cX6_weakAt 63 = .ok (.iadd, 1) := by decide +kernel
theorem dX6_weakAt_64 : decode cX6_weakAt 64 = .ok (.iaload, 1) := by decide +kernel
theorem dX6_weakAt_65 : decode cX6_weakAt 65 = .ok (.if_icmp .ne 13, 3) := by decide +kernel
theorem dX6_weakAt_68 : decode cX6_weakAt 68 = .ok (.iload 5, 2) := by decide +kernel
theorem dX6_weakAt_70 : decode cX6_weakAt 70 = .ok (.iload_n 3, 1) := by decide +kernel
theorem dX6_weakAt_71 : decode cX6_weakAt 71 = .ok (.if_icmp .ge 7, 3) := by decide +kernel
theorem dX6_weakAt_74 : decode cX6_weakAt 74 = .ok (.iconst 1, 1) := by decide +kernel
theorem dX6_weakAt_75 : decode cX6_weakAt 75 = .ok (.goto 4, 3) := by decide +kernel
theorem dX6_weakAt_78 : decode cX6_weakAt 78 = .ok (.iconst 0, 1) := by decide +kernel
theorem dX6_weakAt_79 : decode cX6_weakAt 79 = .ok (.istore 6, 2) := by decide +kernel
theorem dX6_weakAt_81 : decode cX6_weakAt 81 = .ok (.iload 4, 2) := by decide +kernel
theorem dX6_weakAt_83 : decode cX6_weakAt 83 = .ok (.iload 6, 2) := by decide +kernel
theorem dX6_weakAt_85 : decode cX6_weakAt 85 = .ok (.ifCond .eq 7, 3) := by decide +kernel
theorem dX6_weakAt_88 : decode cX6_weakAt 88 = .ok (.iconst 1, 1) := by decide +kernel
theorem dX6_weakAt_89 : decode cX6_weakAt 89 = .ok (.goto 4, 3) := by decide +kernel
theorem dX6_weakAt_92 : decode cX6_weakAt 92 = .ok (.iconst 0, 1) := by decide +kernel
theorem dX6_weakAt_93 : decode cX6_weakAt 93 = .ok (.iadd, 1) := by decide +kernel
theorem dX6_weakAt_94 : decode cX6_weakAt 94 = .ok (.istore 4, 2) := by decide +kernel
theorem dX6_weakAt_96 : decode cX6_weakAt 96 = .ok (.iinc 5 1, 3) := by decide +kernel
theorem dX6_weakAt_99 : decode cX6_weakAt 99 = .ok (.goto (-82), 3) := by decide +kernel
theorem dX6_weakAt_102 : decode cX6_weakAt 102 = .ok (.iload 4, 2) := by decide +kernel
theorem dX6_weakAt_104 : decode cX6_weakAt 104 = .ok (.iload_n 1, 1) := by decide +kernel
theorem dX6_weakAt_105 : decode cX6_weakAt 105 = .ok (.if_icmp .ne 7, 3) := by decide +kernel
theorem dX6_weakAt_108 : decode cX6_weakAt 108 = .ok (.iload_n 3, 1) := by decide +kernel
theorem dX6_weakAt_109 : decode cX6_weakAt 109 = .ok (.goto 4, 3) := by decide +kernel
theorem dX6_weakAt_112 : decode cX6_weakAt 112 = .ok (.iload_n 2, 1) := by decide +kernel
theorem dX6_weakAt_113 : decode cX6_weakAt 113 = .ok (.istore_n 2, 1) := by decide +kernel
theorem dX6_weakAt_114 : decode cX6_weakAt 114 = .ok (.iinc 3 1, 3) := by decide +kernel
theorem dX6_weakAt_117 : decode cX6_weakAt 117 = .ok (.goto (-112), 3) := by decide +kernel
theorem dX6_weakAt_120 : decode cX6_weakAt 120 = .ok (.iload_n 2, 1) := by decide +kernel
theorem dX6_weakAt_121 : decode cX6_weakAt 121 = .ok (.ireturn, 1) := by decide +kernel
set_option maxRecDepth 20000 in
theorem ggX6_weak_X6_in : GoodIn wsX6_weak wsX6_in := goodIn_r _ [4] (by decide +kernel) (by decide +kernel)
set_option maxRecDepth 20000 in
theorem gX6_weak_X6_in : GoodIn wsX6_weak (va_wsS RX6 35 yX6_in wsX6_in) := goodIn_app (goodIn_of _ (by decide +kernel)) ggX6_weak_X6_in
set_option maxRecDepth 20000 in
theorem ggX6_weak_X6_weakAt : GoodIn wsX6_weak wsX6_weakAt := goodIn_r _ [8, 9, 10, 11, 12, 13, 14, 15, 16] (by decide +kernel) (by decide +kernel)
set_option maxRecDepth 20000 in
theorem gX6_weak_X6_weakAt : GoodIn wsX6_weak (wsV RX6 106 RX6 yX6_weakAt wsX6_weakAt) := goodIn_app (goodIn_of _ (by decide +kernel)) ggX6_weak_X6_weakAt
theorem dX6_weak_0 : decode cX6_weak 0 = .ok (.iload_n 1, 1) := by decide +kernel
theorem dX6_weak_1 : decode cX6_weak 1 = .ok (.iconst 0, 1) := by decide +kernel
theorem dX6_weak_2 : decode cX6_weak 2 = .ok (.iconst 3, 1) := by decide +kernel
theorem dX6_weak_3 : decode cX6_weak 3 = .ok (.invokestatic 35, 3) := by decide +kernel
theorem dX6_weak_6 : decode cX6_weak 6 = .ok (.ifCond .eq 11, 3) := by decide +kernel
theorem dX6_weak_9 : decode cX6_weak 9 = .ok (.aload_n 0, 1) := by decide +kernel
theorem dX6_weak_10 : decode cX6_weak 10 = .ok (.iload_n 1, 1) := by decide +kernel
theorem dX6_weak_11 : decode cX6_weak 11 = .ok (.invokevirtual 106, 3) := by decide +kernel
theorem dX6_weak_14 : decode cX6_weak 14 = .ok (.goto 5, 3) := by decide +kernel
theorem dX6_weak_17 : decode cX6_weak 17 = .ok (.bipush (-2), 2) := by decide +kernel
theorem dX6_weak_19 : decode cX6_weak 19 = .ok (.ireturn, 1) := by decide +kernel
theorem dX6_loss_0 : decode cX6_loss 0 = .ok (.iconst 0, 1) := by decide +kernel
theorem dX6_loss_1 : decode cX6_loss 1 = .ok (.istore_n 3, 1) := by decide +kernel
theorem dX6_loss_2 : decode cX6_loss 2 = .ok (.iconst 0, 1) := by decide +kernel
theorem dX6_loss_3 : decode cX6_loss 3 = .ok (.istore 4, 2) := by decide +kernel
theorem dX6_loss_5 : decode cX6_loss 5 = .ok (.iload 4, 2) := by decide +kernel
theorem dX6_loss_7 : decode cX6_loss 7 = .ok (.bipush 23, 2) := by decide +kernel
theorem dX6_loss_9 : decode cX6_loss 9 = .ok (.if_icmp .ge 31, 3) := by decide +kernel
theorem dX6_loss_12 : decode cX6_loss 12 = .ok (.iload_n 3, 1) := by decide +kernel
theorem dX6_loss_13 : decode cX6_loss 13 = .ok (.iload_n 1, 1) := by decide +kernel
theorem dX6_loss_14 : decode cX6_loss 14 = .ok (.iload_n 2, 1) := by decide +kernel
theorem dX6_loss_15 : decode cX6_loss 15 = .ok (.ixor, 1) := by decide +kernel
theorem dX6_loss_16 : decode cX6_loss 16 = .ok (.iload 4, 2) := by decide +kernel
theorem dX6_loss_18 : decode cX6_loss 18 = .ok (.ishr, 1) := by decide +kernel
theorem dX6_loss_19 : decode cX6_loss 19 = .ok (.iconst 1, 1) := by decide +kernel
theorem dX6_loss_20 : decode cX6_loss 20 = .ok (.iand, 1) := by decide +kernel
theorem dX6_loss_21 : decode cX6_loss 21 = .ok (.aload_n 0, 1) := by decide +kernel
theorem dX6_loss_22 : decode cX6_loss 22 = .ok (.getfield 7, 3) := by decide +kernel
theorem dX6_loss_25 : decode cX6_loss 25 = .ok (.bipush 17, 2) := by decide +kernel
theorem dX6_loss_27 : decode cX6_loss 27 = .ok (.iload 4, 2) := by decide +kernel
theorem dX6_loss_29 : decode cX6_loss 29 = .ok (.iadd, 1) := by decide +kernel
theorem dX6_loss_30 : decode cX6_loss 30 = .ok (.iaload, 1) := by decide +kernel
theorem dX6_loss_31 : decode cX6_loss 31 = .ok (.imul, 1) := by decide +kernel
theorem dX6_loss_32 : decode cX6_loss 32 = .ok (.iadd, 1) := by decide +kernel
theorem dX6_loss_33 : decode cX6_loss 33 = .ok (.istore_n 3, 1) := by decide +kernel
theorem dX6_loss_34 : decode cX6_loss 34 = .ok (.iinc 4 1, 3) := by decide +kernel
theorem dX6_loss_37 : decode cX6_loss 37 = .ok (.goto (-32), 3) := by decide +kernel
theorem dX6_loss_40 : decode cX6_loss 40 = .ok (.iload_n 3, 1) := by decide +kernel
theorem dX6_loss_41 : decode cX6_loss 41 = .ok (.ireturn, 1) := by decide +kernel
set_option maxRecDepth 20000 in
theorem ggX6_layTries_X6_weakAt : GoodIn wsX6_layTries wsX6_weakAt := goodIn_r _ [6, 7, 16, 17, 18, 19, 20, 21, 22] (by decide +kernel) (by decide +kernel)
set_option maxRecDepth 20000 in
theorem gX6_layTries_X6_weakAt : GoodIn wsX6_layTries (wsV RX6 106 RX6 yX6_weakAt wsX6_weakAt) := goodIn_app (goodIn_of _ (by decide +kernel)) ggX6_layTries_X6_weakAt
set_option maxRecDepth 20000 in
theorem ggX6_layTries_X6_nearest : GoodIn wsX6_layTries wsX6_nearest := goodIn_r _ [11, 12, 13, 14, 5, 15, 16, 17, 18, 19, 20, 21, 22] (by decide +kernel) (by decide +kernel)
set_option maxRecDepth 20000 in
theorem gX6_layTries_X6_nearest : GoodIn wsX6_layTries (wsV RX6 52 RX6 yX6_nearest wsX6_nearest) := goodIn_app (goodIn_of _ (by decide +kernel)) ggX6_layTries_X6_nearest
theorem dX6_layTries_0 : decode cX6_layTries 0 = .ok (.iconst 0, 1) := by decide +kernel
theorem dX6_layTries_1 : decode cX6_layTries 1 = .ok (.istore_n 3, 1) := by decide +kernel
theorem dX6_layTries_2 : decode cX6_layTries 2 = .ok (.iload_n 3, 1) := by decide +kernel
theorem dX6_layTries_3 : decode cX6_layTries 3 = .ok (.iconst 1, 1) := by decide +kernel
theorem dX6_layTries_4 : decode cX6_layTries 4 = .ok (.iload_n 2, 1) := by decide +kernel
theorem dX6_layTries_5 : decode cX6_layTries 5 = .ok (.ishl, 1) := by decide +kernel
theorem dX6_layTries_6 : decode cX6_layTries 6 = .ok (.if_icmp .ge 57, 3) := by decide +kernel
theorem dX6_layTries_9 : decode cX6_layTries 9 = .ok (.iload_n 1, 1) := by decide +kernel
theorem dX6_layTries_10 : decode cX6_layTries 10 = .ok (.istore 4, 2) := by decide +kernel
theorem dX6_layTries_12 : decode cX6_layTries 12 = .ok (.iconst 0, 1) := by decide +kernel
theorem dX6_layTries_13 : decode cX6_layTries 13 = .ok (.istore 5, 2) := by decide +kernel
theorem dX6_layTries_15 : decode cX6_layTries 15 = .ok (.iload 5, 2) := by decide +kernel
theorem dX6_layTries_17 : decode cX6_layTries 17 = .ok (.iload_n 2, 1) := by decide +kernel
theorem dX6_layTries_18 : decode cX6_layTries 18 = .ok (.if_icmp .ge 27, 3) := by decide +kernel
theorem dX6_layTries_21 : decode cX6_layTries 21 = .ok (.iload 4, 2) := by decide +kernel
theorem dX6_layTries_23 : decode cX6_layTries 23 = .ok (.iload_n 3, 1) := by decide +kernel
theorem dX6_layTries_24 : decode cX6_layTries 24 = .ok (.iload 5, 2) := by decide +kernel
theorem dX6_layTries_26 : decode cX6_layTries 26 = .ok (.ishr, 1) := by decide +kernel
theorem dX6_layTries_27 : decode cX6_layTries 27 = .ok (.iconst 1, 1) := by decide +kernel
theorem dX6_layTries_28 : decode cX6_layTries 28 = .ok (.iand, 1) := by decide +kernel
theorem dX6_layTries_29 : decode cX6_layTries 29 = .ok (.aload_n 0, 1) := by decide +kernel
theorem dX6_layTries_30 : decode cX6_layTries 30 = .ok (.iload 5, 2) := by decide +kernel
theorem dX6_layTries_32 : decode cX6_layTries 32 = .ok (.invokevirtual 106, 3) := by decide +kernel
theorem dX6_layTries_35 : decode cX6_layTries 35 = .ok (.ishl, 1) := by decide +kernel
theorem dX6_layTries_36 : decode cX6_layTries 36 = .ok (.ixor, 1) := by decide +kernel
theorem dX6_layTries_37 : decode cX6_layTries 37 = .ok (.istore 4, 2) := by decide +kernel
theorem dX6_layTries_39 : decode cX6_layTries 39 = .ok (.iinc 5 1, 3) := by decide +kernel
theorem dX6_layTries_42 : decode cX6_layTries 42 = .ok (.goto (-27), 3) := by decide +kernel
theorem dX6_layTries_45 : decode cX6_layTries 45 = .ok (.aload_n 0, 1) := by decide +kernel
theorem dX6_layTries_46 : decode cX6_layTries 46 = .ok (.getfield 23, 3) := by decide +kernel
theorem dX6_layTries_49 : decode cX6_layTries 49 = .ok (.iload_n 3, 1) := by decide +kernel
theorem dX6_layTries_50 : decode cX6_layTries 50 = .ok (.aload_n 0, 1) := by decide +kernel
theorem dX6_layTries_51 : decode cX6_layTries 51 = .ok (.iload 4, 2) := by decide +kernel
theorem dX6_layTries_53 : decode cX6_layTries 53 = .ok (.invokevirtual 52, 3) := by decide +kernel
theorem dX6_layTries_56 : decode cX6_layTries 56 = .ok (.iastore, 1) := by decide +kernel
theorem dX6_layTries_57 : decode cX6_layTries 57 = .ok (.iinc 3 1, 3) := by decide +kernel
theorem dX6_layTries_60 : decode cX6_layTries 60 = .ok (.goto (-58), 3) := by decide +kernel
theorem dX6_layTries_63 : decode cX6_layTries 63 = .ok (.return_, 1) := by decide +kernel
theorem dX6_unlike_0 : decode cX6_unlike 0 = .ok (.iconst 0, 1) := by decide +kernel
theorem dX6_unlike_1 : decode cX6_unlike 1 = .ok (.istore_n 2, 1) := by decide +kernel
theorem dX6_unlike_2 : decode cX6_unlike 2 = .ok (.iconst 0, 1) := by decide +kernel
theorem dX6_unlike_3 : decode cX6_unlike 3 = .ok (.istore_n 3, 1) := by decide +kernel
theorem dX6_unlike_4 : decode cX6_unlike 4 = .ok (.iload_n 3, 1) := by decide +kernel
theorem dX6_unlike_5 : decode cX6_unlike 5 = .ok (.iload_n 1, 1) := by decide +kernel
theorem dX6_unlike_6 : decode cX6_unlike 6 = .ok (.if_icmp .ge 68, 3) := by decide +kernel
theorem dX6_unlike_9 : decode cX6_unlike 9 = .ok (.iconst 1, 1) := by decide +kernel
theorem dX6_unlike_10 : decode cX6_unlike 10 = .ok (.istore 4, 2) := by decide +kernel
theorem dX6_unlike_12 : decode cX6_unlike 12 = .ok (.iconst 0, 1) := by decide +kernel
theorem dX6_unlike_13 : decode cX6_unlike 13 = .ok (.istore 5, 2) := by decide +kernel
theorem dX6_unlike_15 : decode cX6_unlike 15 = .ok (.iload 5, 2) := by decide +kernel
theorem dX6_unlike_17 : decode cX6_unlike 17 = .ok (.iload_n 3, 1) := by decide +kernel
theorem dX6_unlike_18 : decode cX6_unlike 18 = .ok (.if_icmp .ge 37, 3) := by decide +kernel
theorem dX6_unlike_21 : decode cX6_unlike 21 = .ok (.iload 4, 2) := by decide +kernel
theorem dX6_unlike_23 : decode cX6_unlike 23 = .ok (.ifCond .eq 23, 3) := by decide +kernel
theorem dX6_unlike_26 : decode cX6_unlike 26 = .ok (.aload_n 0, 1) := by decide +kernel
theorem dX6_unlike_27 : decode cX6_unlike 27 = .ok (.getfield 23, 3) := by decide +kernel
theorem dX6_unlike_30 : decode cX6_unlike 30 = .ok (.iload 5, 2) := by decide +kernel
theorem dX6_unlike_32 : decode cX6_unlike 32 = .ok (.iaload, 1) := by decide +kernel
theorem dX6_unlike_33 : decode cX6_unlike 33 = .ok (.aload_n 0, 1) := by decide +kernel
theorem dX6_unlike_34 : decode cX6_unlike 34 = .ok (.getfield 23, 3) := by decide +kernel
theorem dX6_unlike_37 : decode cX6_unlike 37 = .ok (.iload_n 3, 1) := by decide +kernel
theorem dX6_unlike_38 : decode cX6_unlike 38 = .ok (.iaload, 1) := by decide +kernel
theorem dX6_unlike_39 : decode cX6_unlike 39 = .ok (.if_icmp .eq 7, 3) := by decide +kernel
theorem dX6_unlike_42 : decode cX6_unlike 42 = .ok (.iconst 1, 1) := by decide +kernel
theorem dX6_unlike_43 : decode cX6_unlike 43 = .ok (.goto 4, 3) := by decide +kernel
theorem dX6_unlike_46 : decode cX6_unlike 46 = .ok (.iconst 0, 1) := by decide +kernel
theorem dX6_unlike_47 : decode cX6_unlike 47 = .ok (.istore 4, 2) := by decide +kernel
theorem dX6_unlike_49 : decode cX6_unlike 49 = .ok (.iinc 5 1, 3) := by decide +kernel
theorem dX6_unlike_52 : decode cX6_unlike 52 = .ok (.goto (-37), 3) := by decide +kernel
theorem dX6_unlike_55 : decode cX6_unlike 55 = .ok (.iload_n 2, 1) := by decide +kernel
theorem dX6_unlike_56 : decode cX6_unlike 56 = .ok (.iload 4, 2) := by decide +kernel
theorem dX6_unlike_58 : decode cX6_unlike 58 = .ok (.ifCond .eq 7, 3) := by decide +kernel
theorem dX6_unlike_61 : decode cX6_unlike 61 = .ok (.iconst 1, 1) := by decide +kernel
theorem dX6_unlike_62 : decode cX6_unlike 62 = .ok (.goto 4, 3) := by decide +kernel
theorem dX6_unlike_65 : decode cX6_unlike 65 = .ok (.iconst 0, 1) := by decide +kernel
theorem dX6_unlike_66 : decode cX6_unlike 66 = .ok (.iadd, 1) := by decide +kernel
theorem dX6_unlike_67 : decode cX6_unlike 67 = .ok (.istore_n 2, 1) := by decide +kernel
theorem dX6_unlike_68 : decode cX6_unlike 68 = .ok (.iinc 3 1, 3) := by decide +kernel
theorem dX6_unlike_71 : decode cX6_unlike 71 = .ok (.goto (-67), 3) := by decide +kernel
theorem dX6_unlike_74 : decode cX6_unlike 74 = .ok (.iload_n 2, 1) := by decide +kernel
theorem dX6_unlike_75 : decode cX6_unlike 75 = .ok (.ireturn, 1) := by decide +kernel
set_option maxRecDepth 20000 in
theorem ggX6_chosen_X6_isWord : GoodIn wsX6_chosen wsX6_isWord := goodIn_r _ [5, 6, 7, 8, 4, 9] (by decide +kernel) (by decide +kernel)
set_option maxRecDepth 20000 in
theorem gX6_chosen_X6_isWord : GoodIn wsX6_chosen (va_wsS RX6 46 yX6_isWord wsX6_isWord) := goodIn_app (goodIn_of _ (by decide +kernel)) ggX6_chosen_X6_isWord
set_option maxRecDepth 20000 in
theorem ggX6_chosen_X6_in : GoodIn wsX6_chosen wsX6_in := goodIn_r _ [9] (by decide +kernel) (by decide +kernel)
set_option maxRecDepth 20000 in
theorem gX6_chosen_X6_in : GoodIn wsX6_chosen (va_wsS RX6 35 yX6_in wsX6_in) := goodIn_app (goodIn_of _ (by decide +kernel)) ggX6_chosen_X6_in
set_option maxRecDepth 20000 in
theorem ggX6_chosen_X6_layTries : GoodIn wsX6_chosen wsX6_layTries := goodIn_r _ [13, 1, 14, 15, 16, 4, 17, 18, 19, 20, 21, 22, 23, 24, 25, 26, 35, 36, 37, 38, 39, 40, 41] (by decide +kernel) (by decide +kernel)
set_option maxRecDepth 20000 in
theorem gX6_chosen_X6_layTries : GoodIn wsX6_chosen (wsV RX6 109 RX6 yX6_layTries wsX6_layTries) := goodIn_app (goodIn_of _ (by decide +kernel)) ggX6_chosen_X6_layTries
set_option maxRecDepth 20000 in
theorem ggX6_chosen_X6_loss : GoodIn wsX6_chosen wsX6_loss := goodIn_r _ [30, 18, 35, 36, 37, 38, 39, 40, 41] (by decide +kernel) (by decide +kernel)
set_option maxRecDepth 20000 in
theorem gX6_chosen_X6_loss : GoodIn wsX6_chosen (wsV RX6 113 RX6 yX6_loss wsX6_loss) := goodIn_app (goodIn_of _ (by decide +kernel)) ggX6_chosen_X6_loss
set_option maxRecDepth 20000 in
theorem ggX6_chosen_X6_unlike : GoodIn wsX6_chosen wsX6_unlike := goodIn_r _ [34, 1, 35, 36, 37, 38, 39, 40, 41] (by decide +kernel) (by decide +kernel)
set_option maxRecDepth 20000 in
theorem gX6_chosen_X6_unlike : GoodIn wsX6_chosen (wsV RX6 116 RX6 yX6_unlike wsX6_unlike) := goodIn_app (goodIn_of _ (by decide +kernel)) ggX6_chosen_X6_unlike
theorem dX6_chosen_0 : decode cX6_chosen 0 = .ok (.iload_n 1, 1) := by decide +kernel
theorem dX6_chosen_1 : decode cX6_chosen 1 = .ok (.invokestatic 46, 3) := by decide +kernel
theorem dX6_chosen_4 : decode cX6_chosen 4 = .ok (.ifCond .eq 21, 3) := by decide +kernel
theorem dX6_chosen_7 : decode cX6_chosen 7 = .ok (.iload_n 2, 1) := by decide +kernel
theorem dX6_chosen_8 : decode cX6_chosen 8 = .ok (.iconst 0, 1) := by decide +kernel
theorem dX6_chosen_9 : decode cX6_chosen 9 = .ok (.iconst 4, 1) := by decide +kernel
theorem dX6_chosen_10 : decode cX6_chosen 10 = .ok (.invokestatic 35, 3) := by decide +kernel
theorem dX6_chosen_13 : decode cX6_chosen 13 = .ok (.ifCond .eq 12, 3) := by decide +kernel
theorem dX6_chosen_16 : decode cX6_chosen 16 = .ok (.iload_n 3, 1) := by decide +kernel
theorem dX6_chosen_17 : decode cX6_chosen 17 = .ok (.iconst 0, 1) := by decide +kernel
theorem dX6_chosen_18 : decode cX6_chosen 18 = .ok (.iconst 3, 1) := by decide +kernel
theorem dX6_chosen_19 : decode cX6_chosen 19 = .ok (.invokestatic 35, 3) := by decide +kernel
theorem dX6_chosen_22 : decode cX6_chosen 22 = .ok (.ifCond .ne 6, 3) := by decide +kernel
theorem dX6_chosen_25 : decode cX6_chosen 25 = .ok (.bipush (-2), 2) := by decide +kernel
theorem dX6_chosen_27 : decode cX6_chosen 27 = .ok (.ireturn, 1) := by decide +kernel
theorem dX6_chosen_28 : decode cX6_chosen 28 = .ok (.aload_n 0, 1) := by decide +kernel
theorem dX6_chosen_29 : decode cX6_chosen 29 = .ok (.iload_n 1, 1) := by decide +kernel
theorem dX6_chosen_30 : decode cX6_chosen 30 = .ok (.iload_n 2, 1) := by decide +kernel
theorem dX6_chosen_31 : decode cX6_chosen 31 = .ok (.invokevirtual 109, 3) := by decide +kernel
theorem dX6_chosen_34 : decode cX6_chosen 34 = .ok (.iconst 0, 1) := by decide +kernel
theorem dX6_chosen_35 : decode cX6_chosen 35 = .ok (.istore 4, 2) := by decide +kernel
theorem dX6_chosen_37 : decode cX6_chosen 37 = .ok (.iconst 1, 1) := by decide +kernel
theorem dX6_chosen_38 : decode cX6_chosen 38 = .ok (.istore 5, 2) := by decide +kernel
theorem dX6_chosen_40 : decode cX6_chosen 40 = .ok (.iload 5, 2) := by decide +kernel
theorem dX6_chosen_42 : decode cX6_chosen 42 = .ok (.iconst 1, 1) := by decide +kernel
theorem dX6_chosen_43 : decode cX6_chosen 43 = .ok (.iload_n 2, 1) := by decide +kernel
theorem dX6_chosen_44 : decode cX6_chosen 44 = .ok (.ishl, 1) := by decide +kernel
theorem dX6_chosen_45 : decode cX6_chosen 45 = .ok (.if_icmp .ge 45, 3) := by decide +kernel
theorem dX6_chosen_48 : decode cX6_chosen 48 = .ok (.aload_n 0, 1) := by decide +kernel
theorem dX6_chosen_49 : decode cX6_chosen 49 = .ok (.aload_n 0, 1) := by decide +kernel
theorem dX6_chosen_50 : decode cX6_chosen 50 = .ok (.getfield 23, 3) := by decide +kernel
theorem dX6_chosen_53 : decode cX6_chosen 53 = .ok (.iload 5, 2) := by decide +kernel
theorem dX6_chosen_55 : decode cX6_chosen 55 = .ok (.iaload, 1) := by decide +kernel
theorem dX6_chosen_56 : decode cX6_chosen 56 = .ok (.iload_n 1, 1) := by decide +kernel
theorem dX6_chosen_57 : decode cX6_chosen 57 = .ok (.invokevirtual 113, 3) := by decide +kernel
theorem dX6_chosen_60 : decode cX6_chosen 60 = .ok (.aload_n 0, 1) := by decide +kernel
theorem dX6_chosen_61 : decode cX6_chosen 61 = .ok (.aload_n 0, 1) := by decide +kernel
theorem dX6_chosen_62 : decode cX6_chosen 62 = .ok (.getfield 23, 3) := by decide +kernel
theorem dX6_chosen_65 : decode cX6_chosen 65 = .ok (.iload 4, 2) := by decide +kernel
theorem dX6_chosen_67 : decode cX6_chosen 67 = .ok (.iaload, 1) := by decide +kernel
theorem dX6_chosen_68 : decode cX6_chosen 68 = .ok (.iload_n 1, 1) := by decide +kernel
theorem dX6_chosen_69 : decode cX6_chosen 69 = .ok (.invokevirtual 113, 3) := by decide +kernel
theorem dX6_chosen_72 : decode cX6_chosen 72 = .ok (.if_icmp .ge 8, 3) := by decide +kernel
theorem dX6_chosen_75 : decode cX6_chosen 75 = .ok (.iload 5, 2) := by decide +kernel
theorem dX6_chosen_77 : decode cX6_chosen 77 = .ok (.goto 5, 3) := by decide +kernel
theorem dX6_chosen_80 : decode cX6_chosen 80 = .ok (.iload 4, 2) := by decide +kernel
theorem dX6_chosen_82 : decode cX6_chosen 82 = .ok (.istore 4, 2) := by decide +kernel
theorem dX6_chosen_84 : decode cX6_chosen 84 = .ok (.iinc 5 1, 3) := by decide +kernel
theorem dX6_chosen_87 : decode cX6_chosen 87 = .ok (.goto (-47), 3) := by decide +kernel
theorem dX6_chosen_90 : decode cX6_chosen 90 = .ok (.iload_n 3, 1) := by decide +kernel
theorem dX6_chosen_91 : decode cX6_chosen 91 = .ok (.ifCond .ne 13, 3) := by decide +kernel
theorem dX6_chosen_94 : decode cX6_chosen 94 = .ok (.aload_n 0, 1) := by decide +kernel
theorem dX6_chosen_95 : decode cX6_chosen 95 = .ok (.getfield 23, 3) := by decide +kernel
theorem dX6_chosen_98 : decode cX6_chosen 98 = .ok (.iload 4, 2) := by decide +kernel
theorem dX6_chosen_100 : decode cX6_chosen 100 = .ok (.iaload, 1) := by decide +kernel
theorem dX6_chosen_101 : decode cX6_chosen 101 = .ok (.goto 40, 3) := by decide +kernel
theorem dX6_chosen_104 : decode cX6_chosen 104 = .ok (.iload_n 3, 1) := by decide +kernel
theorem dX6_chosen_105 : decode cX6_chosen 105 = .ok (.iconst 1, 1) := by decide +kernel
theorem dX6_chosen_106 : decode cX6_chosen 106 = .ok (.if_icmp .ne 18, 3) := by decide +kernel
theorem dX6_chosen_109 : decode cX6_chosen 109 = .ok (.aload_n 0, 1) := by decide +kernel
theorem dX6_chosen_110 : decode cX6_chosen 110 = .ok (.aload_n 0, 1) := by decide +kernel
theorem dX6_chosen_111 : decode cX6_chosen 111 = .ok (.getfield 23, 3) := by decide +kernel
theorem dX6_chosen_114 : decode cX6_chosen 114 = .ok (.iload 4, 2) := by decide +kernel
theorem dX6_chosen_116 : decode cX6_chosen 116 = .ok (.iaload, 1) := by decide +kernel
theorem dX6_chosen_117 : decode cX6_chosen 117 = .ok (.iload_n 1, 1) := by decide +kernel
theorem dX6_chosen_118 : decode cX6_chosen 118 = .ok (.invokevirtual 113, 3) := by decide +kernel
theorem dX6_chosen_121 : decode cX6_chosen 121 = .ok (.goto 20, 3) := by decide +kernel
theorem dX6_chosen_124 : decode cX6_chosen 124 = .ok (.iload_n 3, 1) := by decide +kernel
theorem dX6_chosen_125 : decode cX6_chosen 125 = .ok (.iconst 2, 1) := by decide +kernel
theorem dX6_chosen_126 : decode cX6_chosen 126 = .ok (.if_icmp .ne 8, 3) := by decide +kernel
theorem dX6_chosen_129 : decode cX6_chosen 129 = .ok (.iload 4, 2) := by decide +kernel
theorem dX6_chosen_131 : decode cX6_chosen 131 = .ok (.goto 10, 3) := by decide +kernel
theorem dX6_chosen_134 : decode cX6_chosen 134 = .ok (.aload_n 0, 1) := by decide +kernel
theorem dX6_chosen_135 : decode cX6_chosen 135 = .ok (.iconst 1, 1) := by decide +kernel
theorem dX6_chosen_136 : decode cX6_chosen 136 = .ok (.iload_n 2, 1) := by decide +kernel
theorem dX6_chosen_137 : decode cX6_chosen 137 = .ok (.ishl, 1) := by decide +kernel
theorem dX6_chosen_138 : decode cX6_chosen 138 = .ok (.invokevirtual 116, 3) := by decide +kernel
theorem dX6_chosen_141 : decode cX6_chosen 141 = .ok (.ireturn, 1) := by decide +kernel
set_option maxRecDepth 20000 in
theorem ggX6_image_X6_in : GoodIn wsX6_image wsX6_in := goodIn_r _ [7] (by decide +kernel) (by decide +kernel)
set_option maxRecDepth 20000 in
theorem gX6_image_X6_in : GoodIn wsX6_image (va_wsS RX6 35 yX6_in wsX6_in) := goodIn_app (goodIn_of _ (by decide +kernel)) ggX6_image_X6_in
theorem dX6_image_0 : decode cX6_image 0 = .ok (.iload_n 1, 1) := by decide +kernel
theorem dX6_image_1 : decode cX6_image 1 = .ok (.iconst 0, 1) := by decide +kernel
theorem dX6_image_2 : decode cX6_image 2 = .ok (.iconst 1, 1) := by decide +kernel
theorem dX6_image_3 : decode cX6_image 3 = .ok (.invokestatic 35, 3) := by decide +kernel
theorem dX6_image_6 : decode cX6_image 6 = .ok (.ifCond .ne 6, 3) := by decide +kernel
theorem dX6_image_9 : decode cX6_image 9 = .ok (.bipush (-2), 2) := by decide +kernel
theorem dX6_image_11 : decode cX6_image 11 = .ok (.ireturn, 1) := by decide +kernel
theorem dX6_image_12 : decode cX6_image 12 = .ok (.iconst 0, 1) := by decide +kernel
theorem dX6_image_13 : decode cX6_image 13 = .ok (.istore_n 2, 1) := by decide +kernel
theorem dX6_image_14 : decode cX6_image 14 = .ok (.iload_n 2, 1) := by decide +kernel
theorem dX6_image_15 : decode cX6_image 15 = .ok (.bipush 40, 2) := by decide +kernel
theorem dX6_image_17 : decode cX6_image 17 = .ok (.if_icmp .ge 26, 3) := by decide +kernel
theorem dX6_image_20 : decode cX6_image 20 = .ok (.aload_n 0, 1) := by decide +kernel
theorem dX6_image_21 : decode cX6_image 21 = .ok (.getfield 13, 3) := by decide +kernel
theorem dX6_image_24 : decode cX6_image 24 = .ok (.bipush 40, 2) := by decide +kernel
theorem dX6_image_26 : decode cX6_image 26 = .ok (.iload_n 1, 1) := by decide +kernel
theorem dX6_image_27 : decode cX6_image 27 = .ok (.imul, 1) := by decide +kernel
theorem dX6_image_28 : decode cX6_image 28 = .ok (.iload_n 2, 1) := by decide +kernel
theorem dX6_image_29 : decode cX6_image 29 = .ok (.iadd, 1) := by decide +kernel
theorem dX6_image_30 : decode cX6_image 30 = .ok (.aload_n 0, 1) := by decide +kernel
theorem dX6_image_31 : decode cX6_image 31 = .ok (.getfield 7, 3) := by decide +kernel
theorem dX6_image_34 : decode cX6_image 34 = .ok (.iload_n 2, 1) := by decide +kernel
theorem dX6_image_35 : decode cX6_image 35 = .ok (.iaload, 1) := by decide +kernel
theorem dX6_image_36 : decode cX6_image 36 = .ok (.iastore, 1) := by decide +kernel
theorem dX6_image_37 : decode cX6_image 37 = .ok (.iinc 2 1, 3) := by decide +kernel
theorem dX6_image_40 : decode cX6_image 40 = .ok (.goto (-26), 3) := by decide +kernel
theorem dX6_image_43 : decode cX6_image 43 = .ok (.aload_n 0, 1) := by decide +kernel
theorem dX6_image_44 : decode cX6_image 44 = .ok (.getfield 16, 3) := by decide +kernel
theorem dX6_image_47 : decode cX6_image 47 = .ok (.iload_n 1, 1) := by decide +kernel
theorem dX6_image_48 : decode cX6_image 48 = .ok (.iconst 1, 1) := by decide +kernel
theorem dX6_image_49 : decode cX6_image 49 = .ok (.bastore, 1) := by decide +kernel
theorem dX6_image_50 : decode cX6_image 50 = .ok (.iconst 1, 1) := by decide +kernel
theorem dX6_image_51 : decode cX6_image 51 = .ok (.ireturn, 1) := by decide +kernel
set_option maxRecDepth 20000 in
theorem ggX6_restore_X6_in : GoodIn wsX6_restore wsX6_in := goodIn_r _ [7] (by decide +kernel) (by decide +kernel)
set_option maxRecDepth 20000 in
theorem gX6_restore_X6_in : GoodIn wsX6_restore (va_wsS RX6 35 yX6_in wsX6_in) := goodIn_app (goodIn_of _ (by decide +kernel)) ggX6_restore_X6_in
theorem dX6_restore_0 : decode cX6_restore 0 = .ok (.iload_n 1, 1) := by decide +kernel
theorem dX6_restore_1 : decode cX6_restore 1 = .ok (.iconst 0, 1) := by decide +kernel
theorem dX6_restore_2 : decode cX6_restore 2 = .ok (.iconst 1, 1) := by decide +kernel
theorem dX6_restore_3 : decode cX6_restore 3 = .ok (.invokestatic 35, 3) := by decide +kernel
theorem dX6_restore_6 : decode cX6_restore 6 = .ok (.ifCond .ne 6, 3) := by decide +kernel
theorem dX6_restore_9 : decode cX6_restore 9 = .ok (.bipush (-2), 2) := by decide +kernel
theorem dX6_restore_11 : decode cX6_restore 11 = .ok (.ireturn, 1) := by decide +kernel
theorem dX6_restore_12 : decode cX6_restore 12 = .ok (.aload_n 0, 1) := by decide +kernel
theorem dX6_restore_13 : decode cX6_restore 13 = .ok (.getfield 16, 3) := by decide +kernel
theorem dX6_restore_16 : decode cX6_restore 16 = .ok (.iload_n 1, 1) := by decide +kernel
theorem dX6_restore_17 : decode cX6_restore 17 = .ok (.baload, 1) := by decide +kernel
theorem dX6_restore_18 : decode cX6_restore 18 = .ok (.ifCond .ne 6, 3) := by decide +kernel
theorem dX6_restore_21 : decode cX6_restore 21 = .ok (.bipush (-3), 2) := by decide +kernel
theorem dX6_restore_23 : decode cX6_restore 23 = .ok (.ireturn, 1) := by decide +kernel
theorem dX6_restore_24 : decode cX6_restore 24 = .ok (.iconst 0, 1) := by decide +kernel
theorem dX6_restore_25 : decode cX6_restore 25 = .ok (.istore_n 2, 1) := by decide +kernel
theorem dX6_restore_26 : decode cX6_restore 26 = .ok (.iload_n 2, 1) := by decide +kernel
theorem dX6_restore_27 : decode cX6_restore 27 = .ok (.bipush 40, 2) := by decide +kernel
theorem dX6_restore_29 : decode cX6_restore 29 = .ok (.if_icmp .ge 26, 3) := by decide +kernel
theorem dX6_restore_32 : decode cX6_restore 32 = .ok (.aload_n 0, 1) := by decide +kernel
theorem dX6_restore_33 : decode cX6_restore 33 = .ok (.getfield 7, 3) := by decide +kernel
theorem dX6_restore_36 : decode cX6_restore 36 = .ok (.iload_n 2, 1) := by decide +kernel
theorem dX6_restore_37 : decode cX6_restore 37 = .ok (.aload_n 0, 1) := by decide +kernel
theorem dX6_restore_38 : decode cX6_restore 38 = .ok (.getfield 13, 3) := by decide +kernel
theorem dX6_restore_41 : decode cX6_restore 41 = .ok (.bipush 40, 2) := by decide +kernel
theorem dX6_restore_43 : decode cX6_restore 43 = .ok (.iload_n 1, 1) := by decide +kernel
theorem dX6_restore_44 : decode cX6_restore 44 = .ok (.imul, 1) := by decide +kernel
theorem dX6_restore_45 : decode cX6_restore 45 = .ok (.iload_n 2, 1) := by decide +kernel
theorem dX6_restore_46 : decode cX6_restore 46 = .ok (.iadd, 1) := by decide +kernel
theorem dX6_restore_47 : decode cX6_restore 47 = .ok (.iaload, 1) := by decide +kernel
theorem dX6_restore_48 : decode cX6_restore 48 = .ok (.iastore, 1) := by decide +kernel
theorem dX6_restore_49 : decode cX6_restore 49 = .ok (.iinc 2 1, 3) := by decide +kernel
theorem dX6_restore_52 : decode cX6_restore 52 = .ok (.goto (-26), 3) := by decide +kernel
theorem dX6_restore_55 : decode cX6_restore 55 = .ok (.iconst 1, 1) := by decide +kernel
theorem dX6_restore_56 : decode cX6_restore 56 = .ok (.ireturn, 1) := by decide +kernel
theorem dX6_sureOfAll_0 : decode cX6_sureOfAll 0 = .ok (.iconst 0, 1) := by decide +kernel
theorem dX6_sureOfAll_1 : decode cX6_sureOfAll 1 = .ok (.istore_n 1, 1) := by decide +kernel
theorem dX6_sureOfAll_2 : decode cX6_sureOfAll 2 = .ok (.iconst 0, 1) := by decide +kernel
theorem dX6_sureOfAll_3 : decode cX6_sureOfAll 3 = .ok (.istore_n 2, 1) := by decide +kernel
theorem dX6_sureOfAll_4 : decode cX6_sureOfAll 4 = .ok (.iload_n 2, 1) := by decide +kernel
theorem dX6_sureOfAll_5 : decode cX6_sureOfAll 5 = .ok (.bipush 23, 2) := by decide +kernel
theorem dX6_sureOfAll_7 : decode cX6_sureOfAll 7 = .ok (.if_icmp .ge 21, 3) := by decide +kernel
theorem dX6_sureOfAll_10 : decode cX6_sureOfAll 10 = .ok (.iload_n 1, 1) := by decide +kernel
theorem dX6_sureOfAll_11 : decode cX6_sureOfAll 11 = .ok (.aload_n 0, 1) := by decide +kernel
theorem dX6_sureOfAll_12 : decode cX6_sureOfAll 12 = .ok (.getfield 7, 3) := by decide +kernel
theorem dX6_sureOfAll_15 : decode cX6_sureOfAll 15 = .ok (.bipush 17, 2) := by decide +kernel
theorem dX6_sureOfAll_17 : decode cX6_sureOfAll 17 = .ok (.iload_n 2, 1) := by decide +kernel
theorem dX6_sureOfAll_18 : decode cX6_sureOfAll 18 = .ok (.iadd, 1) := by decide +kernel
theorem dX6_sureOfAll_19 : decode cX6_sureOfAll 19 = .ok (.iaload, 1) := by decide +kernel
theorem dX6_sureOfAll_20 : decode cX6_sureOfAll 20 = .ok (.iadd, 1) := by decide +kernel
