theorem dX6_around_8 : decode cX6_around 8 = .ok (.iconst 0, 1) := by decide +kernel
theorem dX6_around_9 : decode cX6_around 9 = .ok (.bipush 23, 2) := by decide +kernel
theorem dX6_around_11 : decode cX6_around 11 = .ok (.invokestatic 35, 3) := by decide +kernel
theorem dX6_around_14 : decode cX6_around 14 = .ok (.ifCond .ne 6, 3) := by decide +kernel
theorem dX6_around_17 : decode cX6_around 17 = .ok (.bipush (-2), 2) := by decide +kernel
theorem dX6_around_19 : decode cX6_around 19 = .ok (.ireturn, 1) := by decide +kernel
theorem dX6_around_20 : decode cX6_around 20 = .ok (.iconst 0, 1) := by decide +kernel
theorem dX6_around_21 : decode cX6_around 21 = .ok (.istore_n 3, 1) := by decide +kernel
theorem dX6_around_22 : decode cX6_around 22 = .ok (.iconst 0, 1) := by decide +kernel
theorem dX6_around_23 : decode cX6_around 23 = .ok (.istore 4, 2) := by decide +kernel
theorem dX6_around_25 : decode cX6_around 25 = .ok (.iload 4, 2) := by decide +kernel
theorem dX6_around_27 : decode cX6_around 27 = .ok (.sipush 4096, 3) := by decide +kernel
theorem dX6_around_30 : decode cX6_around 30 = .ok (.if_icmp .ge 31, 3) := by decide +kernel
theorem dX6_around_33 : decode cX6_around 33 = .ok (.iload_n 3, 1) := by decide +kernel
theorem dX6_around_34 : decode cX6_around 34 = .ok (.iload 4, 2) := by decide +kernel
theorem dX6_around_36 : decode cX6_around 36 = .ok (.invokestatic 43, 3) := by decide +kernel
theorem dX6_around_39 : decode cX6_around 39 = .ok (.iload_n 1, 1) := by decide +kernel
theorem dX6_around_40 : decode cX6_around 40 = .ok (.ixor, 1) := by decide +kernel
theorem dX6_around_41 : decode cX6_around 41 = .ok (.invokestatic 49, 3) := by decide +kernel
theorem dX6_around_44 : decode cX6_around 44 = .ok (.iload_n 2, 1) := by decide +kernel
theorem dX6_around_45 : decode cX6_around 45 = .ok (.if_icmp .ne 7, 3) := by decide +kernel
theorem dX6_around_48 : decode cX6_around 48 = .ok (.iconst 1, 1) := by decide +kernel
theorem dX6_around_49 : decode cX6_around 49 = .ok (.goto 4, 3) := by decide +kernel
theorem dX6_around_52 : decode cX6_around 52 = .ok (.iconst 0, 1) := by decide +kernel
theorem dX6_around_53 : decode cX6_around 53 = .ok (.iadd, 1) := by decide +kernel
theorem dX6_around_54 : decode cX6_around 54 = .ok (.istore_n 3, 1) := by decide +kernel
theorem dX6_around_55 : decode cX6_around 55 = .ok (.iinc 4 1, 3) := by decide +kernel
theorem dX6_around_58 : decode cX6_around 58 = .ok (.goto (-33), 3) := by decide +kernel
theorem dX6_around_61 : decode cX6_around 61 = .ok (.iload_n 3, 1) := by decide +kernel
theorem dX6_around_62 : decode cX6_around 62 = .ok (.ireturn, 1) := by decide +kernel
theorem dX6_turn_0 : decode cX6_turn 0 = .ok (.iconst 0, 1) := by decide +kernel
theorem dX6_turn_1 : decode cX6_turn 1 = .ok (.istore_n 2, 1) := by decide +kernel
theorem dX6_turn_2 : decode cX6_turn 2 = .ok (.iconst 0, 1) := by decide +kernel
theorem dX6_turn_3 : decode cX6_turn 3 = .ok (.istore_n 3, 1) := by decide +kernel
theorem dX6_turn_4 : decode cX6_turn 4 = .ok (.iload_n 3, 1) := by decide +kernel
theorem dX6_turn_5 : decode cX6_turn 5 = .ok (.bipush 23, 2) := by decide +kernel
theorem dX6_turn_7 : decode cX6_turn 7 = .ok (.if_icmp .ge 24, 3) := by decide +kernel
theorem dX6_turn_10 : decode cX6_turn 10 = .ok (.iload_n 2, 1) := by decide +kernel
theorem dX6_turn_11 : decode cX6_turn 11 = .ok (.iload_n 0, 1) := by decide +kernel
theorem dX6_turn_12 : decode cX6_turn 12 = .ok (.iload_n 3, 1) := by decide +kernel
theorem dX6_turn_13 : decode cX6_turn 13 = .ok (.ishr, 1) := by decide +kernel
theorem dX6_turn_14 : decode cX6_turn 14 = .ok (.iconst 1, 1) := by decide +kernel
theorem dX6_turn_15 : decode cX6_turn 15 = .ok (.iand, 1) := by decide +kernel
theorem dX6_turn_16 : decode cX6_turn 16 = .ok (.iload_n 3, 1) := by decide +kernel
theorem dX6_turn_17 : decode cX6_turn 17 = .ok (.iload_n 1, 1) := by decide +kernel
theorem dX6_turn_18 : decode cX6_turn 18 = .ok (.iadd, 1) := by decide +kernel
theorem dX6_turn_19 : decode cX6_turn 19 = .ok (.bipush 23, 2) := by decide +kernel
theorem dX6_turn_21 : decode cX6_turn 21 = .ok (.irem, 1) := by decide +kernel
theorem dX6_turn_22 : decode cX6_turn 22 = .ok (.ishl, 1) := by decide +kernel
theorem dX6_turn_23 : decode cX6_turn 23 = .ok (.ior, 1) := by decide +kernel
theorem dX6_turn_24 : decode cX6_turn 24 = .ok (.istore_n 2, 1) := by decide +kernel
theorem dX6_turn_25 : decode cX6_turn 25 = .ok (.iinc 3 1, 3) := by decide +kernel
theorem dX6_turn_28 : decode cX6_turn 28 = .ok (.goto (-24), 3) := by decide +kernel
theorem dX6_turn_31 : decode cX6_turn 31 = .ok (.iload_n 2, 1) := by decide +kernel
theorem dX6_turn_32 : decode cX6_turn 32 = .ok (.ireturn, 1) := by decide +kernel
set_option maxRecDepth 20000 in
theorem ggX6_turned_X6_isWord : GoodIn wsX6_turned wsX6_isWord := goodIn_r _ [4, 5, 6, 7, 3, 8] (by decide +kernel) (by decide +kernel)
set_option maxRecDepth 20000 in
theorem gX6_turned_X6_isWord : GoodIn wsX6_turned (va_wsS RX6 46 yX6_isWord wsX6_isWord) := goodIn_app (goodIn_of _ (by decide +kernel)) ggX6_turned_X6_isWord
set_option maxRecDepth 20000 in
theorem ggX6_turned_X6_in : GoodIn wsX6_turned wsX6_in := goodIn_r _ [8] (by decide +kernel) (by decide +kernel)
set_option maxRecDepth 20000 in
theorem gX6_turned_X6_in : GoodIn wsX6_turned (va_wsS RX6 35 yX6_in wsX6_in) := goodIn_app (goodIn_of _ (by decide +kernel)) ggX6_turned_X6_in
set_option maxRecDepth 20000 in
theorem ggX6_turned_X6_turn : GoodIn wsX6_turned wsX6_turn := goodIn_r _ [11] (by decide +kernel) (by decide +kernel)
set_option maxRecDepth 20000 in
theorem gX6_turned_X6_turn : GoodIn wsX6_turned (va_wsS RX6 55 yX6_turn wsX6_turn) := goodIn_app (goodIn_of _ (by decide +kernel)) ggX6_turned_X6_turn
theorem dX6_turned_0 : decode cX6_turned 0 = .ok (.iload_n 1, 1) := by decide +kernel
theorem dX6_turned_1 : decode cX6_turned 1 = .ok (.invokestatic 46, 3) := by decide +kernel
theorem dX6_turned_4 : decode cX6_turned 4 = .ok (.ifCond .eq 21, 3) := by decide +kernel
theorem dX6_turned_7 : decode cX6_turned 7 = .ok (.iload_n 2, 1) := by decide +kernel
theorem dX6_turned_8 : decode cX6_turned 8 = .ok (.iconst 0, 1) := by decide +kernel
theorem dX6_turned_9 : decode cX6_turned 9 = .ok (.bipush 22, 2) := by decide +kernel
theorem dX6_turned_11 : decode cX6_turned 11 = .ok (.invokestatic 35, 3) := by decide +kernel
theorem dX6_turned_14 : decode cX6_turned 14 = .ok (.ifCond .eq 11, 3) := by decide +kernel
theorem dX6_turned_17 : decode cX6_turned 17 = .ok (.iload_n 1, 1) := by decide +kernel
theorem dX6_turned_18 : decode cX6_turned 18 = .ok (.iload_n 2, 1) := by decide +kernel
theorem dX6_turned_19 : decode cX6_turned 19 = .ok (.invokestatic 55, 3) := by decide +kernel
theorem dX6_turned_22 : decode cX6_turned 22 = .ok (.goto 5, 3) := by decide +kernel
theorem dX6_turned_25 : decode cX6_turned 25 = .ok (.bipush (-2), 2) := by decide +kernel
theorem dX6_turned_27 : decode cX6_turned 27 = .ok (.ireturn, 1) := by decide +kernel
set_option maxRecDepth 20000 in
theorem ggX6_caught_X6_restOf : GoodIn wsX6_caught wsX6_restOf := goodIn_r _ [4] (by decide +kernel) (by decide +kernel)
set_option maxRecDepth 20000 in
theorem gX6_caught_X6_restOf : GoodIn wsX6_caught (va_wsS RX6 30 yX6_restOf wsX6_restOf) := goodIn_app (goodIn_of _ (by decide +kernel)) ggX6_caught_X6_restOf
set_option maxRecDepth 20000 in
theorem ggX6_caught_X6_weight : GoodIn wsX6_caught wsX6_weight := goodIn_r _ [7] (by decide +kernel) (by decide +kernel)
set_option maxRecDepth 20000 in
theorem gX6_caught_X6_weight : GoodIn wsX6_caught (va_wsS RX6 49 yX6_weight wsX6_weight) := goodIn_app (goodIn_of _ (by decide +kernel)) ggX6_caught_X6_weight
theorem dX6_caught_0 : decode cX6_caught 0 = .ok (.iload_n 1, 1) := by decide +kernel
theorem dX6_caught_1 : decode cX6_caught 1 = .ok (.ifCond .ne 7, 3) := by decide +kernel
theorem dX6_caught_4 : decode cX6_caught 4 = .ok (.iconst 0, 1) := by decide +kernel
theorem dX6_caught_5 : decode cX6_caught 5 = .ok (.goto 9, 3) := by decide +kernel
theorem dX6_caught_8 : decode cX6_caught 8 = .ok (.iconst 1, 1) := by decide +kernel
theorem dX6_caught_9 : decode cX6_caught 9 = .ok (.bipush 15, 2) := by decide +kernel
theorem dX6_caught_11 : decode cX6_caught 11 = .ok (.iload_n 1, 1) := by decide +kernel
theorem dX6_caught_12 : decode cX6_caught 12 = .ok (.iadd, 1) := by decide +kernel
theorem dX6_caught_13 : decode cX6_caught 13 = .ok (.ishl, 1) := by decide +kernel
theorem dX6_caught_14 : decode cX6_caught 14 = .ok (.istore_n 2, 1) := by decide +kernel
theorem dX6_caught_15 : decode cX6_caught 15 = .ok (.iload_n 0, 1) := by decide +kernel
theorem dX6_caught_16 : decode cX6_caught 16 = .ok (.iload_n 2, 1) := by decide +kernel
theorem dX6_caught_17 : decode cX6_caught 17 = .ok (.ixor, 1) := by decide +kernel
theorem dX6_caught_18 : decode cX6_caught 18 = .ok (.invokestatic 30, 3) := by decide +kernel
theorem dX6_caught_21 : decode cX6_caught 21 = .ok (.istore_n 3, 1) := by decide +kernel
theorem dX6_caught_22 : decode cX6_caught 22 = .ok (.iload_n 3, 1) := by decide +kernel
theorem dX6_caught_23 : decode cX6_caught 23 = .ok (.invokestatic 49, 3) := by decide +kernel
theorem dX6_caught_26 : decode cX6_caught 26 = .ok (.iload_n 1, 1) := by decide +kernel
theorem dX6_caught_27 : decode cX6_caught 27 = .ok (.ifCond .ne 7, 3) := by decide +kernel
theorem dX6_caught_30 : decode cX6_caught 30 = .ok (.iconst 3, 1) := by decide +kernel
theorem dX6_caught_31 : decode cX6_caught 31 = .ok (.goto 4, 3) := by decide +kernel
theorem dX6_caught_34 : decode cX6_caught 34 = .ok (.iconst 2, 1) := by decide +kernel
theorem dX6_caught_35 : decode cX6_caught 35 = .ok (.if_icmp .gt 9, 3) := by decide +kernel
theorem dX6_caught_38 : decode cX6_caught 38 = .ok (.iload_n 3, 1) := by decide +kernel
theorem dX6_caught_39 : decode cX6_caught 39 = .ok (.iload_n 2, 1) := by decide +kernel
theorem dX6_caught_40 : decode cX6_caught 40 = .ok (.ior, 1) := by decide +kernel
theorem dX6_caught_41 : decode cX6_caught 41 = .ok (.goto 5, 3) := by decide +kernel
theorem dX6_caught_44 : decode cX6_caught 44 = .ok (.bipush (-6), 2) := by decide +kernel
theorem dX6_caught_46 : decode cX6_caught 46 = .ok (.ireturn, 1) := by decide +kernel
set_option maxRecDepth 20000 in
theorem ggX6_trapped_X6_isWord : GoodIn wsX6_trapped wsX6_isWord := goodIn_r _ [4, 5, 6, 7, 3, 8] (by decide +kernel) (by decide +kernel)
set_option maxRecDepth 20000 in
theorem gX6_trapped_X6_isWord : GoodIn wsX6_trapped (va_wsS RX6 46 yX6_isWord wsX6_isWord) := goodIn_app (goodIn_of _ (by decide +kernel)) ggX6_trapped_X6_isWord
set_option maxRecDepth 20000 in
theorem ggX6_trapped_X6_in : GoodIn wsX6_trapped wsX6_in := goodIn_r _ [8] (by decide +kernel) (by decide +kernel)
set_option maxRecDepth 20000 in
theorem gX6_trapped_X6_in : GoodIn wsX6_trapped (va_wsS RX6 35 yX6_in wsX6_in) := goodIn_app (goodIn_of _ (by decide +kernel)) ggX6_trapped_X6_in
set_option maxRecDepth 20000 in
theorem ggX6_trapped_X6_turn : GoodIn wsX6_trapped wsX6_turn := goodIn_r _ [11] (by decide +kernel) (by decide +kernel)
set_option maxRecDepth 20000 in
theorem gX6_trapped_X6_turn : GoodIn wsX6_trapped (va_wsS RX6 55 yX6_turn wsX6_turn) := goodIn_app (goodIn_of _ (by decide +kernel)) ggX6_trapped_X6_turn
set_option maxRecDepth 20000 in
theorem ggX6_trapped_X6_caught : GoodIn wsX6_trapped wsX6_caught := goodIn_r _ [14, 15, 16, 3, 17, 18, 19, 20] (by decide +kernel) (by decide +kernel)
set_option maxRecDepth 20000 in
theorem gX6_trapped_X6_caught : GoodIn wsX6_trapped (va_wsS RX6 59 yX6_caught wsX6_caught) := goodIn_app (goodIn_of _ (by decide +kernel)) ggX6_trapped_X6_caught
theorem dX6_trapped_0 : decode cX6_trapped 0 = .ok (.iload_n 1, 1) := by decide +kernel
theorem dX6_trapped_1 : decode cX6_trapped 1 = .ok (.invokestatic 46, 3) := by decide +kernel
theorem dX6_trapped_4 : decode cX6_trapped 4 = .ok (.ifCond .eq 12, 3) := by decide +kernel
theorem dX6_trapped_7 : decode cX6_trapped 7 = .ok (.iload_n 2, 1) := by decide +kernel
theorem dX6_trapped_8 : decode cX6_trapped 8 = .ok (.iconst 0, 1) := by decide +kernel
theorem dX6_trapped_9 : decode cX6_trapped 9 = .ok (.iconst 2, 1) := by decide +kernel
theorem dX6_trapped_10 : decode cX6_trapped 10 = .ok (.invokestatic 35, 3) := by decide +kernel
theorem dX6_trapped_13 : decode cX6_trapped 13 = .ok (.ifCond .ne 6, 3) := by decide +kernel
theorem dX6_trapped_16 : decode cX6_trapped 16 = .ok (.bipush (-2), 2) := by decide +kernel
theorem dX6_trapped_18 : decode cX6_trapped 18 = .ok (.ireturn, 1) := by decide +kernel
theorem dX6_trapped_19 : decode cX6_trapped 19 = .ok (.iconst 0, 1) := by decide +kernel
theorem dX6_trapped_20 : decode cX6_trapped 20 = .ok (.istore_n 3, 1) := by decide +kernel
theorem dX6_trapped_21 : decode cX6_trapped 21 = .ok (.iload_n 3, 1) := by decide +kernel
theorem dX6_trapped_22 : decode cX6_trapped 22 = .ok (.bipush 23, 2) := by decide +kernel
theorem dX6_trapped_24 : decode cX6_trapped 24 = .ok (.if_icmp .ge 69, 3) := by decide +kernel
theorem dX6_trapped_27 : decode cX6_trapped 27 = .ok (.iconst 0, 1) := by decide +kernel
theorem dX6_trapped_28 : decode cX6_trapped 28 = .ok (.istore 4, 2) := by decide +kernel
theorem dX6_trapped_30 : decode cX6_trapped 30 = .ok (.iload 4, 2) := by decide +kernel
theorem dX6_trapped_32 : decode cX6_trapped 32 = .ok (.iconst 3, 1) := by decide +kernel
theorem dX6_trapped_33 : decode cX6_trapped 33 = .ok (.if_icmp .ge 54, 3) := by decide +kernel
theorem dX6_trapped_36 : decode cX6_trapped 36 = .ok (.iload_n 1, 1) := by decide +kernel
theorem dX6_trapped_37 : decode cX6_trapped 37 = .ok (.iload_n 3, 1) := by decide +kernel
theorem dX6_trapped_38 : decode cX6_trapped 38 = .ok (.invokestatic 55, 3) := by decide +kernel
theorem dX6_trapped_41 : decode cX6_trapped 41 = .ok (.iload 4, 2) := by decide +kernel
theorem dX6_trapped_43 : decode cX6_trapped 43 = .ok (.invokestatic 59, 3) := by decide +kernel
theorem dX6_trapped_46 : decode cX6_trapped 46 = .ok (.istore 5, 2) := by decide +kernel
theorem dX6_trapped_48 : decode cX6_trapped 48 = .ok (.iload 5, 2) := by decide +kernel
theorem dX6_trapped_50 : decode cX6_trapped 50 = .ok (.ifCond .lt 31, 3) := by decide +kernel
theorem dX6_trapped_53 : decode cX6_trapped 53 = .ok (.iload_n 2, 1) := by decide +kernel
theorem dX6_trapped_54 : decode cX6_trapped 54 = .ok (.ifCond .ne 7, 3) := by decide +kernel
theorem dX6_trapped_57 : decode cX6_trapped 57 = .ok (.iload_n 3, 1) := by decide +kernel
theorem dX6_trapped_58 : decode cX6_trapped 58 = .ok (.goto 22, 3) := by decide +kernel
theorem dX6_trapped_61 : decode cX6_trapped 61 = .ok (.iload_n 2, 1) := by decide +kernel
theorem dX6_trapped_62 : decode cX6_trapped 62 = .ok (.iconst 1, 1) := by decide +kernel
theorem dX6_trapped_63 : decode cX6_trapped 63 = .ok (.if_icmp .ne 8, 3) := by decide +kernel
theorem dX6_trapped_66 : decode cX6_trapped 66 = .ok (.iload 4, 2) := by decide +kernel
theorem dX6_trapped_68 : decode cX6_trapped 68 = .ok (.goto 12, 3) := by decide +kernel
theorem dX6_trapped_71 : decode cX6_trapped 71 = .ok (.iload 5, 2) := by decide +kernel
theorem dX6_trapped_73 : decode cX6_trapped 73 = .ok (.bipush 23, 2) := by decide +kernel
theorem dX6_trapped_75 : decode cX6_trapped 75 = .ok (.iload_n 3, 1) := by decide +kernel
theorem dX6_trapped_76 : decode cX6_trapped 76 = .ok (.isub, 1) := by decide +kernel
theorem dX6_trapped_77 : decode cX6_trapped 77 = .ok (.invokestatic 55, 3) := by decide +kernel
theorem dX6_trapped_80 : decode cX6_trapped 80 = .ok (.ireturn, 1) := by decide +kernel
theorem dX6_trapped_81 : decode cX6_trapped 81 = .ok (.iinc 4 1, 3) := by decide +kernel
theorem dX6_trapped_84 : decode cX6_trapped 84 = .ok (.goto (-54), 3) := by decide +kernel
theorem dX6_trapped_87 : decode cX6_trapped 87 = .ok (.iinc 3 1, 3) := by decide +kernel
theorem dX6_trapped_90 : decode cX6_trapped 90 = .ok (.goto (-69), 3) := by decide +kernel
theorem dX6_trapped_93 : decode cX6_trapped 93 = .ok (.bipush (-6), 2) := by decide +kernel
theorem dX6_trapped_95 : decode cX6_trapped 95 = .ok (.ireturn, 1) := by decide +kernel
set_option maxRecDepth 20000 in
theorem ggX6_widened_X6_weight : GoodIn wsX6_widened wsX6_weight := goodIn_r _ [4] (by decide +kernel) (by decide +kernel)
set_option maxRecDepth 20000 in
theorem gX6_widened_X6_weight : GoodIn wsX6_widened (va_wsS RX6 49 yX6_weight wsX6_weight) := goodIn_app (goodIn_of _ (by decide +kernel)) ggX6_widened_X6_weight
theorem dX6_widened_0 : decode cX6_widened 0 = .ok (.iload_n 0, 1) := by decide +kernel
theorem dX6_widened_1 : decode cX6_widened 1 = .ok (.iload_n 0, 1) := by decide +kernel
theorem dX6_widened_2 : decode cX6_widened 2 = .ok (.invokestatic 49, 3) := by decide +kernel
theorem dX6_widened_5 : decode cX6_widened 5 = .ok (.iconst 2, 1) := by decide +kernel
theorem dX6_widened_6 : decode cX6_widened 6 = .ok (.irem, 1) := by decide +kernel
theorem dX6_widened_7 : decode cX6_widened 7 = .ok (.bipush 23, 2) := by decide +kernel
theorem dX6_widened_9 : decode cX6_widened 9 = .ok (.ishl, 1) := by decide +kernel
theorem dX6_widened_10 : decode cX6_widened 10 = .ok (.ior, 1) := by decide +kernel
theorem dX6_widened_11 : decode cX6_widened 11 = .ok (.ireturn, 1) := by decide +kernel
set_option maxRecDepth 20000 in
theorem ggX6_wide_X6_isMessage : GoodIn wsX6_wide wsX6_isMessage := goodIn_r _ [4, 5, 6, 3, 7] (by decide +kernel) (by decide +kernel)
set_option maxRecDepth 20000 in
theorem gX6_wide_X6_isMessage : GoodIn wsX6_wide (va_wsS RX6 39 yX6_isMessage wsX6_isMessage) := goodIn_app (goodIn_of _ (by decide +kernel)) ggX6_wide_X6_isMessage
set_option maxRecDepth 20000 in
theorem ggX6_wide_X6_madeOf : GoodIn wsX6_wide wsX6_madeOf := goodIn_r _ [10, 11, 12, 3, 13] (by decide +kernel) (by decide +kernel)
set_option maxRecDepth 20000 in
theorem gX6_wide_X6_madeOf : GoodIn wsX6_wide (va_wsS RX6 43 yX6_madeOf wsX6_madeOf) := goodIn_app (goodIn_of _ (by decide +kernel)) ggX6_wide_X6_madeOf
set_option maxRecDepth 20000 in
theorem ggX6_wide_X6_widened : GoodIn wsX6_wide wsX6_widened := goodIn_r _ [16, 17, 18, 3, 19] (by decide +kernel) (by decide +kernel)
set_option maxRecDepth 20000 in
theorem gX6_wide_X6_widened : GoodIn wsX6_wide (va_wsS RX6 62 yX6_widened wsX6_widened) := goodIn_app (goodIn_of _ (by decide +kernel)) ggX6_wide_X6_widened
theorem dX6_wide_0 : decode cX6_wide 0 = .ok (.iload_n 1, 1) := by decide +kernel
theorem dX6_wide_1 : decode cX6_wide 1 = .ok (.invokestatic 39, 3) := by decide +kernel
theorem dX6_wide_4 : decode cX6_wide 4 = .ok (.ifCond .eq 13, 3) := by decide +kernel
theorem dX6_wide_7 : decode cX6_wide 7 = .ok (.iload_n 1, 1) := by decide +kernel
theorem dX6_wide_8 : decode cX6_wide 8 = .ok (.invokestatic 43, 3) := by decide +kernel
theorem dX6_wide_11 : decode cX6_wide 11 = .ok (.invokestatic 62, 3) := by decide +kernel
theorem dX6_wide_14 : decode cX6_wide 14 = .ok (.goto 5, 3) := by decide +kernel
theorem dX6_wide_17 : decode cX6_wide 17 = .ok (.bipush (-2), 2) := by decide +kernel
theorem dX6_wide_19 : decode cX6_wide 19 = .ok (.ireturn, 1) := by decide +kernel
set_option maxRecDepth 20000 in
theorem ggX6_read_X6_in : GoodIn wsX6_read wsX6_in := goodIn_r _ [6] (by decide +kernel) (by decide +kernel)
set_option maxRecDepth 20000 in
theorem gX6_read_X6_in : GoodIn wsX6_read (va_wsS RX6 35 yX6_in wsX6_in) := goodIn_app (goodIn_of _ (by decide +kernel)) ggX6_read_X6_in
set_option maxRecDepth 20000 in
theorem ggX6_read_X6_nearest : GoodIn wsX6_read wsX6_nearest := goodIn_r _ [10, 11, 12, 13, 5, 14, 21, 22, 23, 24, 25, 26, 27] (by decide +kernel) (by decide +kernel)
set_option maxRecDepth 20000 in
theorem gX6_read_X6_nearest : GoodIn wsX6_read (wsV RX6 52 RX6 yX6_nearest wsX6_nearest) := goodIn_app (goodIn_of _ (by decide +kernel)) ggX6_read_X6_nearest
set_option maxRecDepth 20000 in
theorem ggX6_read_X6_widened : GoodIn wsX6_read wsX6_widened := goodIn_r _ [17, 18, 19, 5, 20] (by decide +kernel) (by decide +kernel)
set_option maxRecDepth 20000 in
theorem gX6_read_X6_widened : GoodIn wsX6_read (va_wsS RX6 62 yX6_widened wsX6_widened) := goodIn_app (goodIn_of _ (by decide +kernel)) ggX6_read_X6_widened
set_option maxRecDepth 20000 in
theorem ggX6_read_X6_weight : GoodIn wsX6_read wsX6_weight := goodIn_r _ [20] (by decide +kernel) (by decide +kernel)
set_option maxRecDepth 20000 in
theorem gX6_read_X6_weight : GoodIn wsX6_read (va_wsS RX6 49 yX6_weight wsX6_weight) := goodIn_app (goodIn_of _ (by decide +kernel)) ggX6_read_X6_weight
theorem dX6_read_0 : decode cX6_read 0 = .ok (.iload_n 1, 1) := by decide +kernel
theorem dX6_read_1 : decode cX6_read 1 = .ok (.iconst 0, 1) := by decide +kernel
theorem dX6_read_2 : decode cX6_read 2 = .ok (.ldc 65, 2) := by decide +kernel
theorem dX6_read_4 : decode cX6_read 4 = .ok (.invokestatic 35, 3) := by decide +kernel
theorem dX6_read_7 : decode cX6_read 7 = .ok (.ifCond .eq 12, 3) := by decide +kernel
theorem dX6_read_10 : decode cX6_read 10 = .ok (.iload_n 2, 1) := by decide +kernel
theorem dX6_read_11 : decode cX6_read 11 = .ok (.iconst 0, 1) := by decide +kernel
theorem dX6_read_12 : decode cX6_read 12 = .ok (.iconst 1, 1) := by decide +kernel
theorem dX6_read_13 : decode cX6_read 13 = .ok (.invokestatic 35, 3) := by decide +kernel
theorem dX6_read_16 : decode cX6_read 16 = .ok (.ifCond .ne 6, 3) := by decide +kernel
theorem dX6_read_19 : decode cX6_read 19 = .ok (.bipush (-2), 2) := by decide +kernel
theorem dX6_read_21 : decode cX6_read 21 = .ok (.ireturn, 1) := by decide +kernel
theorem dX6_read_22 : decode cX6_read 22 = .ok (.aload_n 0, 1) := by decide +kernel
theorem dX6_read_23 : decode cX6_read 23 = .ok (.iload_n 1, 1) := by decide +kernel
theorem dX6_read_24 : decode cX6_read 24 = .ok (.ldc 66, 2) := by decide +kernel
theorem dX6_read_26 : decode cX6_read 26 = .ok (.irem, 1) := by decide +kernel
theorem dX6_read_27 : decode cX6_read 27 = .ok (.invokevirtual 52, 3) := by decide +kernel
theorem dX6_read_30 : decode cX6_read 30 = .ok (.istore_n 3, 1) := by decide +kernel
theorem dX6_read_31 : decode cX6_read 31 = .ok (.iload_n 3, 1) := by decide +kernel
theorem dX6_read_32 : decode cX6_read 32 = .ok (.invokestatic 62, 3) := by decide +kernel
theorem dX6_read_35 : decode cX6_read 35 = .ok (.iload_n 1, 1) := by decide +kernel
theorem dX6_read_36 : decode cX6_read 36 = .ok (.ixor, 1) := by decide +kernel
theorem dX6_read_37 : decode cX6_read 37 = .ok (.invokestatic 49, 3) := by decide +kernel
theorem dX6_read_40 : decode cX6_read 40 = .ok (.istore 4, 2) := by decide +kernel
theorem dX6_read_42 : decode cX6_read 42 = .ok (.iload 4, 2) := by decide +kernel
theorem dX6_read_44 : decode cX6_read 44 = .ok (.iconst 3, 1) := by decide +kernel
theorem dX6_read_45 : decode cX6_read 45 = .ok (.if_icmp .le 6, 3) := by decide +kernel
theorem dX6_read_48 : decode cX6_read 48 = .ok (.bipush (-6), 2) := by decide +kernel
theorem dX6_read_50 : decode cX6_read 50 = .ok (.ireturn, 1) := by decide +kernel
theorem dX6_read_51 : decode cX6_read 51 = .ok (.iload_n 2, 1) := by decide +kernel
theorem dX6_read_52 : decode cX6_read 52 = .ok (.ifCond .ne 10, 3) := by decide +kernel
theorem dX6_read_55 : decode cX6_read 55 = .ok (.iload_n 3, 1) := by decide +kernel
theorem dX6_read_56 : decode cX6_read 56 = .ok (.bipush 11, 2) := by decide +kernel
theorem dX6_read_58 : decode cX6_read 58 = .ok (.ishr, 1) := by decide +kernel
theorem dX6_read_59 : decode cX6_read 59 = .ok (.goto 5, 3) := by decide +kernel
theorem dX6_read_62 : decode cX6_read 62 = .ok (.iload 4, 2) := by decide +kernel
theorem dX6_read_64 : decode cX6_read 64 = .ok (.ireturn, 1) := by decide +kernel
set_option maxRecDepth 20000 in
theorem ggX6_isMove_X6_in : GoodIn wsX6_isMove wsX6_in := goodIn_r _ [4] (by decide +kernel) (by decide +kernel)
set_option maxRecDepth 20000 in
theorem gX6_isMove_X6_in : GoodIn wsX6_isMove (va_wsS RX6 35 yX6_in wsX6_in) := goodIn_app (goodIn_of _ (by decide +kernel)) ggX6_isMove_X6_in
theorem dX6_isMove_0 : decode cX6_isMove 0 = .ok (.iload_n 0, 1) := by decide +kernel
theorem dX6_isMove_1 : decode cX6_isMove 1 = .ok (.iconst 1, 1) := by decide +kernel
theorem dX6_isMove_2 : decode cX6_isMove 2 = .ok (.bipush 22, 2) := by decide +kernel
theorem dX6_isMove_4 : decode cX6_isMove 4 = .ok (.invokestatic 35, 3) := by decide +kernel
theorem dX6_isMove_7 : decode cX6_isMove 7 = .ok (.ifCond .eq 17, 3) := by decide +kernel
theorem dX6_isMove_10 : decode cX6_isMove 10 = .ok (.iload_n 1, 1) := by decide +kernel
theorem dX6_isMove_11 : decode cX6_isMove 11 = .ok (.iconst 0, 1) := by decide +kernel
theorem dX6_isMove_12 : decode cX6_isMove 12 = .ok (.bipush 22, 2) := by decide +kernel
theorem dX6_isMove_14 : decode cX6_isMove 14 = .ok (.invokestatic 35, 3) := by decide +kernel
theorem dX6_isMove_17 : decode cX6_isMove 17 = .ok (.ifCond .eq 7, 3) := by decide +kernel
theorem dX6_isMove_20 : decode cX6_isMove 20 = .ok (.iconst 1, 1) := by decide +kernel
theorem dX6_isMove_21 : decode cX6_isMove 21 = .ok (.goto 4, 3) := by decide +kernel
theorem dX6_isMove_24 : decode cX6_isMove 24 = .ok (.iconst 0, 1) := by decide +kernel
theorem dX6_isMove_25 : decode cX6_isMove 25 = .ok (.ireturn, 1) := by decide +kernel
theorem dX6_place_0 : decode cX6_place 0 = .ok (.iload_n 1, 1) := by decide +kernel
theorem dX6_place_1 : decode cX6_place 1 = .ok (.iload_n 0, 1) := by decide +kernel
theorem dX6_place_2 : decode cX6_place 2 = .ok (.imul, 1) := by decide +kernel
theorem dX6_place_3 : decode cX6_place 3 = .ok (.iload_n 2, 1) := by decide +kernel
theorem dX6_place_4 : decode cX6_place 4 = .ok (.iadd, 1) := by decide +kernel
theorem dX6_place_5 : decode cX6_place 5 = .ok (.bipush 23, 2) := by decide +kernel
theorem dX6_place_7 : decode cX6_place 7 = .ok (.irem, 1) := by decide +kernel
theorem dX6_place_8 : decode cX6_place 8 = .ok (.ireturn, 1) := by decide +kernel
set_option maxRecDepth 20000 in
theorem ggX6_go_X6_place : GoodIn wsX6_go wsX6_place := goodIn_r _ [4] (by decide +kernel) (by decide +kernel)
set_option maxRecDepth 20000 in
theorem gX6_go_X6_place : GoodIn wsX6_go (va_wsS RX6 67 yX6_place wsX6_place) := goodIn_app (goodIn_of _ (by decide +kernel)) ggX6_go_X6_place
theorem dX6_go_0 : decode cX6_go 0 = .ok (.iconst 0, 1) := by decide +kernel
theorem dX6_go_1 : decode cX6_go 1 = .ok (.istore_n 3, 1) := by decide +kernel
theorem dX6_go_2 : decode cX6_go 2 = .ok (.iconst 0, 1) := by decide +kernel
theorem dX6_go_3 : decode cX6_go 3 = .ok (.istore 4, 2) := by decide +kernel
theorem dX6_go_5 : decode cX6_go 5 = .ok (.iload 4, 2) := by decide +kernel
theorem dX6_go_7 : decode cX6_go 7 = .ok (.bipush 23, 2) := by decide +kernel
theorem dX6_go_9 : decode cX6_go 9 = .ok (.if_icmp .ge 26, 3) := by decide +kernel
theorem dX6_go_12 : decode cX6_go 12 = .ok (.iload_n 3, 1) := by decide +kernel
theorem dX6_go_13 : decode cX6_go 13 = .ok (.iload_n 0, 1) := by decide +kernel
theorem dX6_go_14 : decode cX6_go 14 = .ok (.iload 4, 2) := by decide +kernel
theorem dX6_go_16 : decode cX6_go 16 = .ok (.ishr, 1) := by decide +kernel
theorem dX6_go_17 : decode cX6_go 17 = .ok (.iconst 1, 1) := by decide +kernel
theorem dX6_go_18 : decode cX6_go 18 = .ok (.iand, 1) := by decide +kernel
theorem dX6_go_19 : decode cX6_go 19 = .ok (.iload 4, 2) := by decide +kernel
theorem dX6_go_21 : decode cX6_go 21 = .ok (.iload_n 1, 1) := by decide +kernel
theorem dX6_go_22 : decode cX6_go 22 = .ok (.iload_n 2, 1) := by decide +kernel
theorem dX6_go_23 : decode cX6_go 23 = .ok (.invokestatic 67, 3) := by decide +kernel
theorem dX6_go_26 : decode cX6_go 26 = .ok (.ishl, 1) := by decide +kernel
theorem dX6_go_27 : decode cX6_go 27 = .ok (.ior, 1) := by decide +kernel
theorem dX6_go_28 : decode cX6_go 28 = .ok (.istore_n 3, 1) := by decide +kernel
theorem dX6_go_29 : decode cX6_go 29 = .ok (.iinc 4 1, 3) := by decide +kernel
theorem dX6_go_32 : decode cX6_go 32 = .ok (.goto (-27), 3) := by decide +kernel
theorem dX6_go_35 : decode cX6_go 35 = .ok (.iload_n 3, 1) := by decide +kernel
theorem dX6_go_36 : decode cX6_go 36 = .ok (.ireturn, 1) := by decide +kernel
set_option maxRecDepth 20000 in
theorem ggX6_goBack_X6_place : GoodIn wsX6_goBack wsX6_place := goodIn_r _ [4] (by decide +kernel) (by decide +kernel)
set_option maxRecDepth 20000 in
theorem gX6_goBack_X6_place : GoodIn wsX6_goBack (va_wsS RX6 67 yX6_place wsX6_place) := goodIn_app (goodIn_of _ (by decide +kernel)) ggX6_goBack_X6_place
theorem dX6_goBack_0 : decode cX6_goBack 0 = .ok (.iconst 0, 1) := by decide +kernel
theorem dX6_goBack_1 : decode cX6_goBack 1 = .ok (.istore_n 3, 1) := by decide +kernel
theorem dX6_goBack_2 : decode cX6_goBack 2 = .ok (.iconst 0, 1) := by decide +kernel
theorem dX6_goBack_3 : decode cX6_goBack 3 = .ok (.istore 4, 2) := by decide +kernel
theorem dX6_goBack_5 : decode cX6_goBack 5 = .ok (.iload 4, 2) := by decide +kernel
theorem dX6_goBack_7 : decode cX6_goBack 7 = .ok (.bipush 23, 2) := by decide +kernel
theorem dX6_goBack_9 : decode cX6_goBack 9 = .ok (.if_icmp .ge 26, 3) := by decide +kernel
theorem dX6_goBack_12 : decode cX6_goBack 12 = .ok (.iload_n 3, 1) := by decide +kernel
theorem dX6_goBack_13 : decode cX6_goBack 13 = .ok (.iload_n 0, 1) := by decide +kernel
theorem dX6_goBack_14 : decode cX6_goBack 14 = .ok (.iload 4, 2) := by decide +kernel
theorem dX6_goBack_16 : decode cX6_goBack 16 = .ok (.iload_n 1, 1) := by decide +kernel
theorem dX6_goBack_17 : decode cX6_goBack 17 = .ok (.iload_n 2, 1) := by decide +kernel
theorem dX6_goBack_18 : decode cX6_goBack 18 = .ok (.invokestatic 67, 3) := by decide +kernel
theorem dX6_goBack_21 : decode cX6_goBack 21 = .ok (.ishr, 1) := by decide +kernel
theorem dX6_goBack_22 : decode cX6_goBack 22 = .ok (.iconst 1, 1) := by decide +kernel
theorem dX6_goBack_23 : decode cX6_goBack 23 = .ok (.iand, 1) := by decide +kernel
theorem dX6_goBack_24 : decode cX6_goBack 24 = .ok (.iload 4, 2) := by decide +kernel
theorem dX6_goBack_26 : decode cX6_goBack 26 = .ok (.ishl, 1) := by decide +kernel
theorem dX6_goBack_27 : decode cX6_goBack 27 = .ok (.ior, 1) := by decide +kernel
theorem dX6_goBack_28 : decode cX6_goBack 28 = .ok (.istore_n 3, 1) := by decide +kernel
theorem dX6_goBack_29 : decode cX6_goBack 29 = .ok (.iinc 4 1, 3) := by decide +kernel
theorem dX6_goBack_32 : decode cX6_goBack 32 = .ok (.goto (-27), 3) := by decide +kernel
theorem dX6_goBack_35 : decode cX6_goBack 35 = .ok (.iload_n 3, 1) := by decide +kernel
theorem dX6_goBack_36 : decode cX6_goBack 36 = .ok (.ireturn, 1) := by decide +kernel
set_option maxRecDepth 20000 in
theorem ggX6_keepsCode_X6_madeOf : GoodIn wsX6_keepsCode wsX6_madeOf := goodIn_r _ [4, 5, 6, 3, 7] (by decide +kernel) (by decide +kernel)
set_option maxRecDepth 20000 in
theorem gX6_keepsCode_X6_madeOf : GoodIn wsX6_keepsCode (va_wsS RX6 43 yX6_madeOf wsX6_madeOf) := goodIn_app (goodIn_of _ (by decide +kernel)) ggX6_keepsCode_X6_madeOf
set_option maxRecDepth 20000 in
theorem ggX6_keepsCode_X6_go : GoodIn wsX6_keepsCode wsX6_go := goodIn_r _ [10, 11, 12, 3, 13] (by decide +kernel) (by decide +kernel)
set_option maxRecDepth 20000 in
theorem gX6_keepsCode_X6_go : GoodIn wsX6_keepsCode (va_wsS RX6 71 yX6_go wsX6_go) := goodIn_app (goodIn_of _ (by decide +kernel)) ggX6_keepsCode_X6_go
set_option maxRecDepth 20000 in
theorem ggX6_keepsCode_X6_restOf : GoodIn wsX6_keepsCode wsX6_restOf := goodIn_r _ [7] (by decide +kernel) (by decide +kernel)
set_option maxRecDepth 20000 in
theorem gX6_keepsCode_X6_restOf : GoodIn wsX6_keepsCode (va_wsS RX6 30 yX6_restOf wsX6_restOf) := goodIn_app (goodIn_of _ (by decide +kernel)) ggX6_keepsCode_X6_restOf
theorem dX6_keepsCode_0 : decode cX6_keepsCode 0 = .ok (.iconst 1, 1) := by decide +kernel
theorem dX6_keepsCode_1 : decode cX6_keepsCode 1 = .ok (.istore_n 2, 1) := by decide +kernel
theorem dX6_keepsCode_2 : decode cX6_keepsCode 2 = .ok (.iconst 0, 1) := by decide +kernel
theorem dX6_keepsCode_3 : decode cX6_keepsCode 3 = .ok (.istore_n 3, 1) := by decide +kernel
theorem dX6_keepsCode_4 : decode cX6_keepsCode 4 = .ok (.iload_n 3, 1) := by decide +kernel
theorem dX6_keepsCode_5 : decode cX6_keepsCode 5 = .ok (.bipush 12, 2) := by decide +kernel
theorem dX6_keepsCode_7 : decode cX6_keepsCode 7 = .ok (.if_icmp .ge 36, 3) := by decide +kernel
theorem dX6_keepsCode_10 : decode cX6_keepsCode 10 = .ok (.iload_n 2, 1) := by decide +kernel
theorem dX6_keepsCode_11 : decode cX6_keepsCode 11 = .ok (.ifCond .eq 24, 3) := by decide +kernel
theorem dX6_keepsCode_14 : decode cX6_keepsCode 14 = .ok (.iconst 1, 1) := by decide +kernel
theorem dX6_keepsCode_15 : decode cX6_keepsCode 15 = .ok (.iload_n 3, 1) := by decide +kernel
theorem dX6_keepsCode_16 : decode cX6_keepsCode 16 = .ok (.ishl, 1) := by decide +kernel
theorem dX6_keepsCode_17 : decode cX6_keepsCode 17 = .ok (.invokestatic 43, 3) := by decide +kernel
theorem dX6_keepsCode_20 : decode cX6_keepsCode 20 = .ok (.iload_n 0, 1) := by decide +kernel
theorem dX6_keepsCode_21 : decode cX6_keepsCode 21 = .ok (.iload_n 1, 1) := by decide +kernel
theorem dX6_keepsCode_22 : decode cX6_keepsCode 22 = .ok (.invokestatic 71, 3) := by decide +kernel
theorem dX6_keepsCode_25 : decode cX6_keepsCode 25 = .ok (.invokestatic 30, 3) := by decide +kernel
theorem dX6_keepsCode_28 : decode cX6_keepsCode 28 = .ok (.ifCond .ne 7, 3) := by decide +kernel
theorem dX6_keepsCode_31 : decode cX6_keepsCode 31 = .ok (.iconst 1, 1) := by decide +kernel
theorem dX6_keepsCode_32 : decode cX6_keepsCode 32 = .ok (.goto 4, 3) := by decide +kernel
theorem dX6_keepsCode_35 : decode cX6_keepsCode 35 = .ok (.iconst 0, 1) := by decide +kernel
theorem dX6_keepsCode_36 : decode cX6_keepsCode 36 = .ok (.istore_n 2, 1) := by decide +kernel
theorem dX6_keepsCode_37 : decode cX6_keepsCode 37 = .ok (.iinc 3 1, 3) := by decide +kernel
theorem dX6_keepsCode_40 : decode cX6_keepsCode 40 = .ok (.goto (-36), 3) := by decide +kernel
theorem dX6_keepsCode_43 : decode cX6_keepsCode 43 = .ok (.iload_n 2, 1) := by decide +kernel
theorem dX6_keepsCode_44 : decode cX6_keepsCode 44 = .ok (.ireturn, 1) := by decide +kernel
set_option maxRecDepth 20000 in
theorem ggX6_keeps_X6_isMove : GoodIn wsX6_keeps wsX6_isMove := goodIn_r _ [4, 5, 6, 3, 7] (by decide +kernel) (by decide +kernel)
set_option maxRecDepth 20000 in
theorem gX6_keeps_X6_isMove : GoodIn wsX6_keeps (va_wsS RX6 74 yX6_isMove wsX6_isMove) := goodIn_app (goodIn_of _ (by decide +kernel)) ggX6_keeps_X6_isMove
set_option maxRecDepth 20000 in
theorem ggX6_keeps_X6_keepsCode : GoodIn wsX6_keeps wsX6_keepsCode := goodIn_r _ [10, 11, 12, 3, 13, 14, 15, 16, 17, 18, 19, 20, 21, 22] (by decide +kernel) (by decide +kernel)
set_option maxRecDepth 20000 in
theorem gX6_keeps_X6_keepsCode : GoodIn wsX6_keeps (va_wsS RX6 78 yX6_keepsCode wsX6_keepsCode) := goodIn_app (goodIn_of _ (by decide +kernel)) ggX6_keeps_X6_keepsCode
theorem dX6_keeps_0 : decode cX6_keeps 0 = .ok (.iload_n 1, 1) := by decide +kernel
theorem dX6_keeps_1 : decode cX6_keeps 1 = .ok (.iload_n 2, 1) := by decide +kernel
theorem dX6_keeps_2 : decode cX6_keeps 2 = .ok (.invokestatic 74, 3) := by decide +kernel
theorem dX6_keeps_5 : decode cX6_keeps 5 = .ok (.ifCond .ne 6, 3) := by decide +kernel
theorem dX6_keeps_8 : decode cX6_keeps 8 = .ok (.bipush (-2), 2) := by decide +kernel
theorem dX6_keeps_10 : decode cX6_keeps 10 = .ok (.ireturn, 1) := by decide +kernel
theorem dX6_keeps_11 : decode cX6_keeps 11 = .ok (.iload_n 1, 1) := by decide +kernel
theorem dX6_keeps_12 : decode cX6_keeps 12 = .ok (.iload_n 2, 1) := by decide +kernel
theorem dX6_keeps_13 : decode cX6_keeps 13 = .ok (.invokestatic 78, 3) := by decide +kernel
theorem dX6_keeps_16 : decode cX6_keeps 16 = .ok (.ifCond .eq 7, 3) := by decide +kernel
theorem dX6_keeps_19 : decode cX6_keeps 19 = .ok (.iconst 1, 1) := by decide +kernel
theorem dX6_keeps_20 : decode cX6_keeps 20 = .ok (.goto 4, 3) := by decide +kernel
theorem dX6_keeps_23 : decode cX6_keeps 23 = .ok (.iconst 0, 1) := by decide +kernel
theorem dX6_keeps_24 : decode cX6_keeps 24 = .ok (.ireturn, 1) := by decide +kernel
set_option maxRecDepth 20000 in
theorem ggX6_moved_X6_isWord : GoodIn wsX6_moved wsX6_isWord := goodIn_r _ [4, 5, 6, 7, 3, 8] (by decide +kernel) (by decide +kernel)
set_option maxRecDepth 20000 in
theorem gX6_moved_X6_isWord : GoodIn wsX6_moved (va_wsS RX6 46 yX6_isWord wsX6_isWord) := goodIn_app (goodIn_of _ (by decide +kernel)) ggX6_moved_X6_isWord
set_option maxRecDepth 20000 in
theorem ggX6_moved_X6_isMove : GoodIn wsX6_moved wsX6_isMove := goodIn_r _ [11, 6, 7, 3, 8] (by decide +kernel) (by decide +kernel)
set_option maxRecDepth 20000 in
theorem gX6_moved_X6_isMove : GoodIn wsX6_moved (va_wsS RX6 74 yX6_isMove wsX6_isMove) := goodIn_app (goodIn_of _ (by decide +kernel)) ggX6_moved_X6_isMove
set_option maxRecDepth 20000 in
theorem ggX6_moved_X6_go : GoodIn wsX6_moved wsX6_go := goodIn_r _ [14, 15, 16, 3, 17] (by decide +kernel) (by decide +kernel)
set_option maxRecDepth 20000 in
theorem gX6_moved_X6_go : GoodIn wsX6_moved (va_wsS RX6 71 yX6_go wsX6_go) := goodIn_app (goodIn_of _ (by decide +kernel)) ggX6_moved_X6_go
theorem dX6_moved_0 : decode cX6_moved 0 = .ok (.iload_n 1, 1) := by decide +kernel
theorem dX6_moved_1 : decode cX6_moved 1 = .ok (.invokestatic 46, 3) := by decide +kernel
theorem dX6_moved_4 : decode cX6_moved 4 = .ok (.ifCond .eq 20, 3) := by decide +kernel
theorem dX6_moved_7 : decode cX6_moved 7 = .ok (.iload_n 2, 1) := by decide +kernel
theorem dX6_moved_8 : decode cX6_moved 8 = .ok (.iload_n 3, 1) := by decide +kernel
theorem dX6_moved_9 : decode cX6_moved 9 = .ok (.invokestatic 74, 3) := by decide +kernel
