theorem dX5_of_0 : decode cX5_of 0 = .ok (.iload_n 1, 1) := by decide +kernel
theorem dX5_of_1 : decode cX5_of 1 = .ok (.ldc 45, 2) := by decide +kernel
theorem dX5_of_3 : decode cX5_of 3 = .ok (.invokestatic 35, 3) := by decide +kernel
theorem dX5_of_6 : decode cX5_of 6 = .ok (.ifCond .eq 11, 3) := by decide +kernel
theorem dX5_of_9 : decode cX5_of 9 = .ok (.iload_n 2, 1) := by decide +kernel
theorem dX5_of_10 : decode cX5_of 10 = .ok (.iconst 4, 1) := by decide +kernel
theorem dX5_of_11 : decode cX5_of 11 = .ok (.invokestatic 35, 3) := by decide +kernel
theorem dX5_of_14 : decode cX5_of 14 = .ok (.ifCond .ne 6, 3) := by decide +kernel
theorem dX5_of_17 : decode cX5_of 17 = .ok (.bipush (-2), 2) := by decide +kernel
theorem dX5_of_19 : decode cX5_of 19 = .ok (.ireturn, 1) := by decide +kernel
theorem dX5_of_20 : decode cX5_of 20 = .ok (.iload_n 2, 1) := by decide +kernel
theorem dX5_of_21 : decode cX5_of 21 = .ok (.tableswitch 50 0 2 #[27, 32, 41], 27) := by decide +kernel
theorem dX5_of_48 : decode cX5_of 48 = .ok (.iload_n 1, 1) := by decide +kernel
theorem dX5_of_49 : decode cX5_of 49 = .ok (.invokestatic 49, 3) := by decide +kernel
theorem dX5_of_52 : decode cX5_of 52 = .ok (.ireturn, 1) := by decide +kernel
theorem dX5_of_53 : decode cX5_of 53 = .ok (.aload_n 0, 1) := by decide +kernel
theorem dX5_of_54 : decode cX5_of 54 = .ok (.getfield 12, 3) := by decide +kernel
theorem dX5_of_57 : decode cX5_of 57 = .ok (.iload_n 1, 1) := by decide +kernel
theorem dX5_of_58 : decode cX5_of 58 = .ok (.invokevirtual 54, 3) := by decide +kernel
theorem dX5_of_61 : decode cX5_of 61 = .ok (.ireturn, 1) := by decide +kernel
theorem dX5_of_62 : decode cX5_of 62 = .ok (.aload_n 0, 1) := by decide +kernel
theorem dX5_of_63 : decode cX5_of 63 = .ok (.getfield 12, 3) := by decide +kernel
theorem dX5_of_66 : decode cX5_of 66 = .ok (.iload_n 1, 1) := by decide +kernel
theorem dX5_of_67 : decode cX5_of 67 = .ok (.invokevirtual 57, 3) := by decide +kernel
theorem dX5_of_70 : decode cX5_of 70 = .ok (.ireturn, 1) := by decide +kernel
theorem dX5_of_71 : decode cX5_of 71 = .ok (.aload_n 0, 1) := by decide +kernel
theorem dX5_of_72 : decode cX5_of 72 = .ok (.getfield 12, 3) := by decide +kernel
theorem dX5_of_75 : decode cX5_of 75 = .ok (.iload_n 1, 1) := by decide +kernel
theorem dX5_of_76 : decode cX5_of 76 = .ok (.invokevirtual 54, 3) := by decide +kernel
theorem dX5_of_79 : decode cX5_of 79 = .ok (.invokestatic 60, 3) := by decide +kernel
theorem dX5_of_82 : decode cX5_of 82 = .ok (.ireturn, 1) := by decide +kernel
set_option maxRecDepth 20000 in
theorem ggX5_around_X5_isBelow : GoodIn wsX5_around wsX5_isBelow := goodIn_r _ [6] (by decide +kernel) (by decide +kernel)
set_option maxRecDepth 20000 in
theorem gX5_around_X5_isBelow : GoodIn wsX5_around (va_wsS RX5 35 yX5_isBelow wsX5_isBelow) := goodIn_app (goodIn_of _ (by decide +kernel)) ggX5_around_X5_isBelow
set_option maxRecDepth 20000 in
theorem ggX5_around_X2_distance : GoodIn wsX5_around wsX2_distance := goodIn_r _ [10, 11, 12, 13, 8, 14, 15, 16, 17, 18, 4, 5, 6, 19, 20, 21, 22, 23, 24, 25, 35] (by decide +kernel) (by decide +kernel)
set_option maxRecDepth 20000 in
theorem gX5_around_X2_distance_n57 : GoodIn wsX5_around (wsX2_distance) := ggX5_around_X2_distance
set_option maxRecDepth 20000 in
theorem ggX5_around_X5_codeWordsAt : GoodIn wsX5_around wsX5_codeWordsAt := goodIn_r _ [28, 29, 3, 4, 5, 6] (by decide +kernel) (by decide +kernel)
set_option maxRecDepth 20000 in
theorem gX5_around_X5_codeWordsAt : GoodIn wsX5_around (va_wsS RX5 63 yX5_codeWordsAt wsX5_codeWordsAt) := goodIn_app (goodIn_of _ (by decide +kernel)) ggX5_around_X5_codeWordsAt
theorem dX5_around_0 : decode cX5_around 0 = .ok (.iload_n 1, 1) := by decide +kernel
theorem dX5_around_1 : decode cX5_around 1 = .ok (.ldc 45, 2) := by decide +kernel
theorem dX5_around_3 : decode cX5_around 3 = .ok (.invokestatic 35, 3) := by decide +kernel
theorem dX5_around_6 : decode cX5_around 6 = .ok (.ifCond .eq 12, 3) := by decide +kernel
theorem dX5_around_9 : decode cX5_around 9 = .ok (.iload_n 2, 1) := by decide +kernel
theorem dX5_around_10 : decode cX5_around 10 = .ok (.bipush 24, 2) := by decide +kernel
theorem dX5_around_12 : decode cX5_around 12 = .ok (.invokestatic 35, 3) := by decide +kernel
theorem dX5_around_15 : decode cX5_around 15 = .ok (.ifCond .ne 6, 3) := by decide +kernel
theorem dX5_around_18 : decode cX5_around 18 = .ok (.bipush (-2), 2) := by decide +kernel
theorem dX5_around_20 : decode cX5_around 20 = .ok (.ireturn, 1) := by decide +kernel
theorem dX5_around_21 : decode cX5_around 21 = .ok (.aload_n 0, 1) := by decide +kernel
theorem dX5_around_22 : decode cX5_around 22 = .ok (.getfield 12, 3) := by decide +kernel
theorem dX5_around_25 : decode cX5_around 25 = .ok (.iload_n 1, 1) := by decide +kernel
theorem dX5_around_26 : decode cX5_around 26 = .ok (.invokevirtual 57, 3) := by decide +kernel
theorem dX5_around_29 : decode cX5_around 29 = .ok (.iload_n 2, 1) := by decide +kernel
theorem dX5_around_30 : decode cX5_around 30 = .ok (.invokestatic 63, 3) := by decide +kernel
theorem dX5_around_33 : decode cX5_around 33 = .ok (.ireturn, 1) := by decide +kernel
set_option maxRecDepth 20000 in
theorem ggX5_turned_X5_isBelow : GoodIn wsX5_turned wsX5_isBelow := goodIn_r _ [5] (by decide +kernel) (by decide +kernel)
set_option maxRecDepth 20000 in
theorem gX5_turned_X5_isBelow : GoodIn wsX5_turned (va_wsS RX5 35 yX5_isBelow wsX5_isBelow) := goodIn_app (goodIn_of _ (by decide +kernel)) ggX5_turned_X5_isBelow
set_option maxRecDepth 20000 in
theorem ggX5_turned_X0_turn : GoodIn wsX5_turned wsX0_turn := goodIn_r _ [8, 9] (by decide +kernel) (by decide +kernel)
set_option maxRecDepth 20000 in
theorem gX5_turned_X0_turn_n67 : GoodIn wsX5_turned (wsX0_turn) := ggX5_turned_X0_turn
theorem dX5_turned_0 : decode cX5_turned 0 = .ok (.iload_n 1, 1) := by decide +kernel
theorem dX5_turned_1 : decode cX5_turned 1 = .ok (.ldc 45, 2) := by decide +kernel
theorem dX5_turned_3 : decode cX5_turned 3 = .ok (.invokestatic 35, 3) := by decide +kernel
theorem dX5_turned_6 : decode cX5_turned 6 = .ok (.ifCond .eq 20, 3) := by decide +kernel
theorem dX5_turned_9 : decode cX5_turned 9 = .ok (.iload_n 2, 1) := by decide +kernel
theorem dX5_turned_10 : decode cX5_turned 10 = .ok (.bipush 23, 2) := by decide +kernel
theorem dX5_turned_12 : decode cX5_turned 12 = .ok (.invokestatic 35, 3) := by decide +kernel
theorem dX5_turned_15 : decode cX5_turned 15 = .ok (.ifCond .eq 11, 3) := by decide +kernel
theorem dX5_turned_18 : decode cX5_turned 18 = .ok (.iload_n 1, 1) := by decide +kernel
theorem dX5_turned_19 : decode cX5_turned 19 = .ok (.iload_n 2, 1) := by decide +kernel
theorem dX5_turned_20 : decode cX5_turned 20 = .ok (.invokestatic 67, 3) := by decide +kernel
theorem dX5_turned_23 : decode cX5_turned 23 = .ok (.goto 5, 3) := by decide +kernel
theorem dX5_turned_26 : decode cX5_turned 26 = .ok (.bipush (-2), 2) := by decide +kernel
theorem dX5_turned_28 : decode cX5_turned 28 = .ok (.ireturn, 1) := by decide +kernel
set_option maxRecDepth 20000 in
theorem ggX5_trapped_X5_isBelow : GoodIn wsX5_trapped wsX5_isBelow := goodIn_r _ [5] (by decide +kernel) (by decide +kernel)
set_option maxRecDepth 20000 in
theorem gX5_trapped_X5_isBelow : GoodIn wsX5_trapped (va_wsS RX5 35 yX5_isBelow wsX5_isBelow) := goodIn_app (goodIn_of _ (by decide +kernel)) ggX5_trapped_X5_isBelow
set_option maxRecDepth 20000 in
theorem ggX5_trapped_X0_turn : GoodIn wsX5_trapped wsX0_turn := goodIn_r _ [8, 9] (by decide +kernel) (by decide +kernel)
set_option maxRecDepth 20000 in
theorem gX5_trapped_X0_turn_n67 : GoodIn wsX5_trapped (wsX0_turn) := ggX5_trapped_X0_turn
set_option maxRecDepth 20000 in
theorem ggX5_trapped_X0_trapErrors : GoodIn wsX5_trapped wsX0_trapErrors := goodIn_r _ [11, 12, 13, 14, 15, 7, 16, 17, 18, 19, 20, 21, 22, 23] (by decide +kernel) (by decide +kernel)
set_option maxRecDepth 20000 in
theorem gX5_trapped_X0_trapErrors_n70 : GoodIn wsX5_trapped (wsX0_trapErrors) := ggX5_trapped_X0_trapErrors
set_option maxRecDepth 20000 in
theorem ggX5_trapped_X0_turnBack : GoodIn wsX5_trapped wsX0_turnBack := goodIn_r _ [25, 26, 6, 7, 8, 9] (by decide +kernel) (by decide +kernel)
set_option maxRecDepth 20000 in
theorem gX5_trapped_X0_turnBack_n73 : GoodIn wsX5_trapped (wsX0_turnBack) := ggX5_trapped_X0_turnBack
theorem dX5_trapped_0 : decode cX5_trapped 0 = .ok (.iload_n 1, 1) := by decide +kernel
theorem dX5_trapped_1 : decode cX5_trapped 1 = .ok (.ldc 45, 2) := by decide +kernel
theorem dX5_trapped_3 : decode cX5_trapped 3 = .ok (.invokestatic 35, 3) := by decide +kernel
theorem dX5_trapped_6 : decode cX5_trapped 6 = .ok (.ifCond .eq 11, 3) := by decide +kernel
theorem dX5_trapped_9 : decode cX5_trapped 9 = .ok (.iload_n 2, 1) := by decide +kernel
theorem dX5_trapped_10 : decode cX5_trapped 10 = .ok (.iconst 3, 1) := by decide +kernel
theorem dX5_trapped_11 : decode cX5_trapped 11 = .ok (.invokestatic 35, 3) := by decide +kernel
theorem dX5_trapped_14 : decode cX5_trapped 14 = .ok (.ifCond .ne 6, 3) := by decide +kernel
theorem dX5_trapped_17 : decode cX5_trapped 17 = .ok (.bipush (-2), 2) := by decide +kernel
theorem dX5_trapped_19 : decode cX5_trapped 19 = .ok (.ireturn, 1) := by decide +kernel
theorem dX5_trapped_20 : decode cX5_trapped 20 = .ok (.iconst 0, 1) := by decide +kernel
theorem dX5_trapped_21 : decode cX5_trapped 21 = .ok (.istore_n 3, 1) := by decide +kernel
theorem dX5_trapped_22 : decode cX5_trapped 22 = .ok (.iload_n 3, 1) := by decide +kernel
theorem dX5_trapped_23 : decode cX5_trapped 23 = .ok (.bipush 23, 2) := by decide +kernel
theorem dX5_trapped_25 : decode cX5_trapped 25 = .ok (.if_icmp .ge 72, 3) := by decide +kernel
theorem dX5_trapped_28 : decode cX5_trapped 28 = .ok (.iload_n 1, 1) := by decide +kernel
theorem dX5_trapped_29 : decode cX5_trapped 29 = .ok (.iload_n 3, 1) := by decide +kernel
theorem dX5_trapped_30 : decode cX5_trapped 30 = .ok (.invokestatic 67, 3) := by decide +kernel
theorem dX5_trapped_33 : decode cX5_trapped 33 = .ok (.istore 4, 2) := by decide +kernel
theorem dX5_trapped_35 : decode cX5_trapped 35 = .ok (.iconst 0, 1) := by decide +kernel
theorem dX5_trapped_36 : decode cX5_trapped 36 = .ok (.istore 5, 2) := by decide +kernel
theorem dX5_trapped_38 : decode cX5_trapped 38 = .ok (.iload 5, 2) := by decide +kernel
theorem dX5_trapped_40 : decode cX5_trapped 40 = .ok (.iconst 3, 1) := by decide +kernel
theorem dX5_trapped_41 : decode cX5_trapped 41 = .ok (.if_icmp .ge 50, 3) := by decide +kernel
theorem dX5_trapped_44 : decode cX5_trapped 44 = .ok (.iload 4, 2) := by decide +kernel
theorem dX5_trapped_46 : decode cX5_trapped 46 = .ok (.iload 5, 2) := by decide +kernel
theorem dX5_trapped_48 : decode cX5_trapped 48 = .ok (.invokestatic 70, 3) := by decide +kernel
theorem dX5_trapped_51 : decode cX5_trapped 51 = .ok (.istore 6, 2) := by decide +kernel
theorem dX5_trapped_53 : decode cX5_trapped 53 = .ok (.iload 6, 2) := by decide +kernel
theorem dX5_trapped_55 : decode cX5_trapped 55 = .ok (.bipush (-6), 2) := by decide +kernel
theorem dX5_trapped_57 : decode cX5_trapped 57 = .ok (.if_icmp .eq 28, 3) := by decide +kernel
theorem dX5_trapped_60 : decode cX5_trapped 60 = .ok (.iload_n 2, 1) := by decide +kernel
theorem dX5_trapped_61 : decode cX5_trapped 61 = .ok (.ifCond .ne 7, 3) := by decide +kernel
theorem dX5_trapped_64 : decode cX5_trapped 64 = .ok (.iload_n 3, 1) := by decide +kernel
theorem dX5_trapped_65 : decode cX5_trapped 65 = .ok (.goto 19, 3) := by decide +kernel
theorem dX5_trapped_68 : decode cX5_trapped 68 = .ok (.iload_n 2, 1) := by decide +kernel
theorem dX5_trapped_69 : decode cX5_trapped 69 = .ok (.iconst 1, 1) := by decide +kernel
theorem dX5_trapped_70 : decode cX5_trapped 70 = .ok (.if_icmp .ne 8, 3) := by decide +kernel
theorem dX5_trapped_73 : decode cX5_trapped 73 = .ok (.iload 5, 2) := by decide +kernel
theorem dX5_trapped_75 : decode cX5_trapped 75 = .ok (.goto 9, 3) := by decide +kernel
theorem dX5_trapped_78 : decode cX5_trapped 78 = .ok (.iload 6, 2) := by decide +kernel
theorem dX5_trapped_80 : decode cX5_trapped 80 = .ok (.iload_n 3, 1) := by decide +kernel
theorem dX5_trapped_81 : decode cX5_trapped 81 = .ok (.invokestatic 73, 3) := by decide +kernel
theorem dX5_trapped_84 : decode cX5_trapped 84 = .ok (.ireturn, 1) := by decide +kernel
theorem dX5_trapped_85 : decode cX5_trapped 85 = .ok (.iinc 5 1, 3) := by decide +kernel
theorem dX5_trapped_88 : decode cX5_trapped 88 = .ok (.goto (-50), 3) := by decide +kernel
theorem dX5_trapped_91 : decode cX5_trapped 91 = .ok (.iinc 3 1, 3) := by decide +kernel
theorem dX5_trapped_94 : decode cX5_trapped 94 = .ok (.goto (-72), 3) := by decide +kernel
theorem dX5_trapped_97 : decode cX5_trapped 97 = .ok (.bipush (-6), 2) := by decide +kernel
theorem dX5_trapped_99 : decode cX5_trapped 99 = .ok (.ireturn, 1) := by decide +kernel
set_option maxRecDepth 20000 in
theorem ggX5_wide_X5_isBelow : GoodIn wsX5_wide wsX5_isBelow := goodIn_r _ [4] (by decide +kernel) (by decide +kernel)
set_option maxRecDepth 20000 in
theorem gX5_wide_X5_isBelow : GoodIn wsX5_wide (va_wsS RX5 35 yX5_isBelow wsX5_isBelow) := goodIn_app (goodIn_of _ (by decide +kernel)) ggX5_wide_X5_isBelow
set_option maxRecDepth 20000 in
theorem ggX5_wide_X0_coded : GoodIn wsX5_wide wsX0_coded := goodIn_r _ [7, 8, 9, 6, 10] (by decide +kernel) (by decide +kernel)
set_option maxRecDepth 20000 in
theorem gX5_wide_X0_coded_n39 : GoodIn wsX5_wide (wsX0_coded) := ggX5_wide_X0_coded
set_option maxRecDepth 20000 in
theorem ggX5_wide_X0_widen : GoodIn wsX5_wide wsX0_widen := goodIn_r _ [12, 13, 14, 15, 16, 17, 18, 19] (by decide +kernel) (by decide +kernel)
set_option maxRecDepth 20000 in
theorem gX5_wide_X0_widen_n76 : GoodIn wsX5_wide (wsX0_widen) := ggX5_wide_X0_widen
theorem dX5_wide_0 : decode cX5_wide 0 = .ok (.iload_n 1, 1) := by decide +kernel
theorem dX5_wide_1 : decode cX5_wide 1 = .ok (.sipush 4096, 3) := by decide +kernel
theorem dX5_wide_4 : decode cX5_wide 4 = .ok (.invokestatic 35, 3) := by decide +kernel
theorem dX5_wide_7 : decode cX5_wide 7 = .ok (.ifCond .eq 13, 3) := by decide +kernel
theorem dX5_wide_10 : decode cX5_wide 10 = .ok (.iload_n 1, 1) := by decide +kernel
theorem dX5_wide_11 : decode cX5_wide 11 = .ok (.invokestatic 39, 3) := by decide +kernel
theorem dX5_wide_14 : decode cX5_wide 14 = .ok (.invokestatic 76, 3) := by decide +kernel
theorem dX5_wide_17 : decode cX5_wide 17 = .ok (.goto 5, 3) := by decide +kernel
theorem dX5_wide_20 : decode cX5_wide 20 = .ok (.bipush (-2), 2) := by decide +kernel
theorem dX5_wide_22 : decode cX5_wide 22 = .ok (.ireturn, 1) := by decide +kernel
set_option maxRecDepth 20000 in
theorem ggX5_read_X5_isBelow : GoodIn wsX5_read wsX5_isBelow := goodIn_r _ [7] (by decide +kernel) (by decide +kernel)
set_option maxRecDepth 20000 in
theorem gX5_read_X5_isBelow : GoodIn wsX5_read (va_wsS RX5 35 yX5_isBelow wsX5_isBelow) := goodIn_app (goodIn_of _ (by decide +kernel)) ggX5_read_X5_isBelow
set_option maxRecDepth 20000 in
theorem ggX5_read_X2_nearest : GoodIn wsX5_read wsX2_nearest := goodIn_r _ [11, 12, 13, 14, 9, 15, 16, 17, 18, 19, 5, 6, 7, 37] (by decide +kernel) (by decide +kernel)
set_option maxRecDepth 20000 in
theorem gX5_read_X2_nearest_n54 : GoodIn wsX5_read (wsX2_nearest) := ggX5_read_X2_nearest
set_option maxRecDepth 20000 in
theorem ggX5_read_X0_widen : GoodIn wsX5_read wsX0_widen := goodIn_r _ [21, 22, 23, 24, 25, 26, 27, 28] (by decide +kernel) (by decide +kernel)
set_option maxRecDepth 20000 in
theorem gX5_read_X0_widen_n76 : GoodIn wsX5_read (wsX0_widen) := ggX5_read_X0_widen
set_option maxRecDepth 20000 in
theorem ggX5_read_J6_bitCount_0f7a4 : GoodIn wsX5_read wsJ6_bitCount_0f7a4 := goodIn_r _ [25, 26, 27, 28] (by decide +kernel) (by decide +kernel)
set_option maxRecDepth 20000 in
theorem gX5_read_J6_bitCount_0f7a4 : GoodIn wsX5_read (va_wsS RX5 49 yJ6_bitCount_0f7a4 wsJ6_bitCount_0f7a4) := goodIn_app (goodIn_of _ (by decide +kernel)) ggX5_read_J6_bitCount_0f7a4
set_option maxRecDepth 20000 in
theorem ggX5_read_X0_message : GoodIn wsX5_read wsX0_message := goodIn_r _ [31] (by decide +kernel) (by decide +kernel)
set_option maxRecDepth 20000 in
theorem gX5_read_X0_message_n60 : GoodIn wsX5_read (wsX0_message) := ggX5_read_X0_message
theorem dX5_read_0 : decode cX5_read 0 = .ok (.iload_n 1, 1) := by decide +kernel
theorem dX5_read_1 : decode cX5_read 1 = .ok (.ldc 79, 2) := by decide +kernel
theorem dX5_read_3 : decode cX5_read 3 = .ok (.invokestatic 35, 3) := by decide +kernel
theorem dX5_read_6 : decode cX5_read 6 = .ok (.ifCond .eq 11, 3) := by decide +kernel
theorem dX5_read_9 : decode cX5_read 9 = .ok (.iload_n 2, 1) := by decide +kernel
theorem dX5_read_10 : decode cX5_read 10 = .ok (.iconst 2, 1) := by decide +kernel
theorem dX5_read_11 : decode cX5_read 11 = .ok (.invokestatic 35, 3) := by decide +kernel
theorem dX5_read_14 : decode cX5_read 14 = .ok (.ifCond .ne 6, 3) := by decide +kernel
theorem dX5_read_17 : decode cX5_read 17 = .ok (.bipush (-2), 2) := by decide +kernel
theorem dX5_read_19 : decode cX5_read 19 = .ok (.ireturn, 1) := by decide +kernel
theorem dX5_read_20 : decode cX5_read 20 = .ok (.aload_n 0, 1) := by decide +kernel
theorem dX5_read_21 : decode cX5_read 21 = .ok (.getfield 12, 3) := by decide +kernel
theorem dX5_read_24 : decode cX5_read 24 = .ok (.iload_n 1, 1) := by decide +kernel
theorem dX5_read_25 : decode cX5_read 25 = .ok (.ldc 80, 2) := by decide +kernel
theorem dX5_read_27 : decode cX5_read 27 = .ok (.iand, 1) := by decide +kernel
theorem dX5_read_28 : decode cX5_read 28 = .ok (.invokevirtual 54, 3) := by decide +kernel
theorem dX5_read_31 : decode cX5_read 31 = .ok (.istore_n 3, 1) := by decide +kernel
theorem dX5_read_32 : decode cX5_read 32 = .ok (.iload_n 3, 1) := by decide +kernel
theorem dX5_read_33 : decode cX5_read 33 = .ok (.invokestatic 76, 3) := by decide +kernel
theorem dX5_read_36 : decode cX5_read 36 = .ok (.iload_n 1, 1) := by decide +kernel
theorem dX5_read_37 : decode cX5_read 37 = .ok (.ixor, 1) := by decide +kernel
theorem dX5_read_38 : decode cX5_read 38 = .ok (.invokestatic 49, 3) := by decide +kernel
theorem dX5_read_41 : decode cX5_read 41 = .ok (.istore 4, 2) := by decide +kernel
theorem dX5_read_43 : decode cX5_read 43 = .ok (.iload 4, 2) := by decide +kernel
theorem dX5_read_45 : decode cX5_read 45 = .ok (.iconst 3, 1) := by decide +kernel
theorem dX5_read_46 : decode cX5_read 46 = .ok (.if_icmp .le 6, 3) := by decide +kernel
theorem dX5_read_49 : decode cX5_read 49 = .ok (.bipush (-6), 2) := by decide +kernel
theorem dX5_read_51 : decode cX5_read 51 = .ok (.ireturn, 1) := by decide +kernel
theorem dX5_read_52 : decode cX5_read 52 = .ok (.iload_n 2, 1) := by decide +kernel
theorem dX5_read_53 : decode cX5_read 53 = .ok (.ifCond .ne 10, 3) := by decide +kernel
theorem dX5_read_56 : decode cX5_read 56 = .ok (.iload_n 3, 1) := by decide +kernel
theorem dX5_read_57 : decode cX5_read 57 = .ok (.invokestatic 60, 3) := by decide +kernel
theorem dX5_read_60 : decode cX5_read 60 = .ok (.goto 5, 3) := by decide +kernel
theorem dX5_read_63 : decode cX5_read 63 = .ok (.iload 4, 2) := by decide +kernel
theorem dX5_read_65 : decode cX5_read 65 = .ok (.ireturn, 1) := by decide +kernel
set_option maxRecDepth 20000 in
theorem ggX5_keeps_X5_isMove : GoodIn wsX5_keeps wsX5_isMove := goodIn_r _ [4, 5, 6, 3, 7] (by decide +kernel) (by decide +kernel)
set_option maxRecDepth 20000 in
theorem gX5_keeps_X5_isMove : GoodIn wsX5_keeps (va_wsS RX5 81 yX5_isMove wsX5_isMove) := goodIn_app (goodIn_of _ (by decide +kernel)) ggX5_keeps_X5_isMove
set_option maxRecDepth 20000 in
theorem ggX5_keeps_X0_staysInCode : GoodIn wsX5_keeps wsX0_staysInCode := goodIn_r _ [10, 11, 12, 9, 13, 14, 15, 16, 17, 18, 19] (by decide +kernel) (by decide +kernel)
set_option maxRecDepth 20000 in
theorem gX5_keeps_X0_staysInCode_n84 : GoodIn wsX5_keeps (wsX0_staysInCode) := ggX5_keeps_X0_staysInCode
theorem dX5_keeps_0 : decode cX5_keeps 0 = .ok (.iload_n 1, 1) := by decide +kernel
theorem dX5_keeps_1 : decode cX5_keeps 1 = .ok (.iload_n 2, 1) := by decide +kernel
theorem dX5_keeps_2 : decode cX5_keeps 2 = .ok (.invokestatic 81, 3) := by decide +kernel
theorem dX5_keeps_5 : decode cX5_keeps 5 = .ok (.ifCond .ne 6, 3) := by decide +kernel
theorem dX5_keeps_8 : decode cX5_keeps 8 = .ok (.bipush (-2), 2) := by decide +kernel
theorem dX5_keeps_10 : decode cX5_keeps 10 = .ok (.ireturn, 1) := by decide +kernel
theorem dX5_keeps_11 : decode cX5_keeps 11 = .ok (.iload_n 1, 1) := by decide +kernel
theorem dX5_keeps_12 : decode cX5_keeps 12 = .ok (.iload_n 2, 1) := by decide +kernel
theorem dX5_keeps_13 : decode cX5_keeps 13 = .ok (.invokestatic 84, 3) := by decide +kernel
theorem dX5_keeps_16 : decode cX5_keeps 16 = .ok (.ifCond .eq 7, 3) := by decide +kernel
theorem dX5_keeps_19 : decode cX5_keeps 19 = .ok (.iconst 1, 1) := by decide +kernel
theorem dX5_keeps_20 : decode cX5_keeps 20 = .ok (.goto 4, 3) := by decide +kernel
theorem dX5_keeps_23 : decode cX5_keeps 23 = .ok (.iconst 0, 1) := by decide +kernel
theorem dX5_keeps_24 : decode cX5_keeps 24 = .ok (.ireturn, 1) := by decide +kernel
set_option maxRecDepth 20000 in
theorem ggX5_moved_X5_isBelow : GoodIn wsX5_moved wsX5_isBelow := goodIn_r _ [5] (by decide +kernel) (by decide +kernel)
set_option maxRecDepth 20000 in
theorem gX5_moved_X5_isBelow : GoodIn wsX5_moved (va_wsS RX5 35 yX5_isBelow wsX5_isBelow) := goodIn_app (goodIn_of _ (by decide +kernel)) ggX5_moved_X5_isBelow
set_option maxRecDepth 20000 in
theorem ggX5_moved_X5_isMove : GoodIn wsX5_moved wsX5_isMove := goodIn_r _ [8, 2, 3, 4, 5] (by decide +kernel) (by decide +kernel)
set_option maxRecDepth 20000 in
theorem gX5_moved_X5_isMove : GoodIn wsX5_moved (va_wsS RX5 81 yX5_isMove wsX5_isMove) := goodIn_app (goodIn_of _ (by decide +kernel)) ggX5_moved_X5_isMove
set_option maxRecDepth 20000 in
theorem ggX5_moved_X0_carry : GoodIn wsX5_moved wsX0_carry := goodIn_r _ [11, 12, 13, 10, 14] (by decide +kernel) (by decide +kernel)
set_option maxRecDepth 20000 in
theorem gX5_moved_X0_carry_n87 : GoodIn wsX5_moved (wsX0_carry) := ggX5_moved_X0_carry
theorem dX5_moved_0 : decode cX5_moved 0 = .ok (.iload_n 1, 1) := by decide +kernel
theorem dX5_moved_1 : decode cX5_moved 1 = .ok (.ldc 45, 2) := by decide +kernel
theorem dX5_moved_3 : decode cX5_moved 3 = .ok (.invokestatic 35, 3) := by decide +kernel
theorem dX5_moved_6 : decode cX5_moved 6 = .ok (.ifCond .eq 20, 3) := by decide +kernel
theorem dX5_moved_9 : decode cX5_moved 9 = .ok (.iload_n 2, 1) := by decide +kernel
theorem dX5_moved_10 : decode cX5_moved 10 = .ok (.iload_n 3, 1) := by decide +kernel
theorem dX5_moved_11 : decode cX5_moved 11 = .ok (.invokestatic 81, 3) := by decide +kernel
theorem dX5_moved_14 : decode cX5_moved 14 = .ok (.ifCond .eq 12, 3) := by decide +kernel
theorem dX5_moved_17 : decode cX5_moved 17 = .ok (.iload_n 1, 1) := by decide +kernel
theorem dX5_moved_18 : decode cX5_moved 18 = .ok (.iload_n 2, 1) := by decide +kernel
theorem dX5_moved_19 : decode cX5_moved 19 = .ok (.iload_n 3, 1) := by decide +kernel
theorem dX5_moved_20 : decode cX5_moved 20 = .ok (.invokestatic 87, 3) := by decide +kernel
theorem dX5_moved_23 : decode cX5_moved 23 = .ok (.goto 5, 3) := by decide +kernel
theorem dX5_moved_26 : decode cX5_moved 26 = .ok (.bipush (-2), 2) := by decide +kernel
theorem dX5_moved_28 : decode cX5_moved 28 = .ok (.ireturn, 1) := by decide +kernel
set_option maxRecDepth 20000 in
theorem ggX5_move_X5_isMove : GoodIn wsX5_move wsX5_isMove := goodIn_r _ [5, 6, 7, 4, 8] (by decide +kernel) (by decide +kernel)
set_option maxRecDepth 20000 in
theorem gX5_move_X5_isMove : GoodIn wsX5_move (va_wsS RX5 81 yX5_isMove wsX5_isMove) := goodIn_app (goodIn_of _ (by decide +kernel)) ggX5_move_X5_isMove
set_option maxRecDepth 20000 in
theorem ggX5_move_X0_staysInCode : GoodIn wsX5_move wsX0_staysInCode := goodIn_r _ [11, 12, 13, 10, 14, 15, 16, 17, 18, 19, 20] (by decide +kernel) (by decide +kernel)
set_option maxRecDepth 20000 in
theorem gX5_move_X0_staysInCode_n84 : GoodIn wsX5_move (wsX0_staysInCode) := ggX5_move_X0_staysInCode
set_option maxRecDepth 20000 in
theorem ggX5_move_X3_append : GoodIn wsX5_move wsX3_append := goodIn_r _ [24, 25, 26, 27, 28, 29, 10, 30, 15, 16, 17, 38, 39, 40, 41] (by decide +kernel) (by decide +kernel)
set_option maxRecDepth 20000 in
theorem gX5_move_X3_append_n100 : GoodIn wsX5_move (wsX3_append) := ggX5_move_X3_append
theorem dX5_move_0 : decode cX5_move 0 = .ok (.iload_n 1, 1) := by decide +kernel
theorem dX5_move_1 : decode cX5_move 1 = .ok (.iload_n 2, 1) := by decide +kernel
theorem dX5_move_2 : decode cX5_move 2 = .ok (.invokestatic 81, 3) := by decide +kernel
theorem dX5_move_5 : decode cX5_move 5 = .ok (.ifCond .ne 6, 3) := by decide +kernel
theorem dX5_move_8 : decode cX5_move 8 = .ok (.bipush (-2), 2) := by decide +kernel
theorem dX5_move_10 : decode cX5_move 10 = .ok (.ireturn, 1) := by decide +kernel
theorem dX5_move_11 : decode cX5_move 11 = .ok (.iload_n 1, 1) := by decide +kernel
theorem dX5_move_12 : decode cX5_move 12 = .ok (.iload_n 2, 1) := by decide +kernel
theorem dX5_move_13 : decode cX5_move 13 = .ok (.invokestatic 84, 3) := by decide +kernel
theorem dX5_move_16 : decode cX5_move 16 = .ok (.ifCond .ne 6, 3) := by decide +kernel
theorem dX5_move_19 : decode cX5_move 19 = .ok (.bipush (-5), 2) := by decide +kernel
theorem dX5_move_21 : decode cX5_move 21 = .ok (.ireturn, 1) := by decide +kernel
theorem dX5_move_22 : decode cX5_move 22 = .ok (.aload_n 0, 1) := by decide +kernel
theorem dX5_move_23 : decode cX5_move 23 = .ok (.getfield 19, 3) := by decide +kernel
theorem dX5_move_26 : decode cX5_move 26 = .ok (.getfield 91, 3) := by decide +kernel
theorem dX5_move_29 : decode cX5_move 29 = .ok (.getfield 95, 3) := by decide +kernel
theorem dX5_move_32 : decode cX5_move 32 = .ok (.bipush 8, 2) := by decide +kernel
theorem dX5_move_34 : decode cX5_move 34 = .ok (.if_icmp .ne 6, 3) := by decide +kernel
theorem dX5_move_37 : decode cX5_move 37 = .ok (.bipush (-4), 2) := by decide +kernel
theorem dX5_move_39 : decode cX5_move 39 = .ok (.ireturn, 1) := by decide +kernel
theorem dX5_move_40 : decode cX5_move 40 = .ok (.aload_n 0, 1) := by decide +kernel
theorem dX5_move_41 : decode cX5_move 41 = .ok (.getfield 19, 3) := by decide +kernel
theorem dX5_move_44 : decode cX5_move 44 = .ok (.getfield 91, 3) := by decide +kernel
theorem dX5_move_47 : decode cX5_move 47 = .ok (.iload_n 1, 1) := by decide +kernel
theorem dX5_move_48 : decode cX5_move 48 = .ok (.iload_n 2, 1) := by decide +kernel
theorem dX5_move_49 : decode cX5_move 49 = .ok (.invokevirtual 100, 3) := by decide +kernel
theorem dX5_move_52 : decode cX5_move 52 = .ok (.aload_n 0, 1) := by decide +kernel
theorem dX5_move_53 : decode cX5_move 53 = .ok (.getfield 19, 3) := by decide +kernel
theorem dX5_move_56 : decode cX5_move 56 = .ok (.getfield 91, 3) := by decide +kernel
theorem dX5_move_59 : decode cX5_move 59 = .ok (.getfield 95, 3) := by decide +kernel
theorem dX5_move_62 : decode cX5_move 62 = .ok (.iconst 1, 1) := by decide +kernel
theorem dX5_move_63 : decode cX5_move 63 = .ok (.isub, 1) := by decide +kernel
theorem dX5_move_64 : decode cX5_move 64 = .ok (.ireturn, 1) := by decide +kernel
set_option maxRecDepth 20000 in
theorem ggX5_drop_X5_isBelow : GoodIn wsX5_drop wsX5_isBelow := goodIn_r _ [5] (by decide +kernel) (by decide +kernel)
set_option maxRecDepth 20000 in
theorem gX5_drop_X5_isBelow : GoodIn wsX5_drop (va_wsS RX5 35 yX5_isBelow wsX5_isBelow) := goodIn_app (goodIn_of _ (by decide +kernel)) ggX5_drop_X5_isBelow
set_option maxRecDepth 20000 in
theorem ggX5_drop_X3_removeAt : GoodIn wsX5_drop wsX3_removeAt := goodIn_r _ [9, 10, 11, 12, 13, 3, 4, 5, 21, 22, 23, 24] (by decide +kernel) (by decide +kernel)
set_option maxRecDepth 20000 in
theorem gX5_drop_X3_removeAt_n104 : GoodIn wsX5_drop (wsX3_removeAt) := ggX5_drop_X3_removeAt
theorem dX5_drop_0 : decode cX5_drop 0 = .ok (.iload_n 1, 1) := by decide +kernel
theorem dX5_drop_1 : decode cX5_drop 1 = .ok (.aload_n 0, 1) := by decide +kernel
theorem dX5_drop_2 : decode cX5_drop 2 = .ok (.getfield 19, 3) := by decide +kernel
theorem dX5_drop_5 : decode cX5_drop 5 = .ok (.getfield 91, 3) := by decide +kernel
theorem dX5_drop_8 : decode cX5_drop 8 = .ok (.getfield 95, 3) := by decide +kernel
theorem dX5_drop_11 : decode cX5_drop 11 = .ok (.invokestatic 35, 3) := by decide +kernel
theorem dX5_drop_14 : decode cX5_drop 14 = .ok (.ifCond .ne 5, 3) := by decide +kernel
theorem dX5_drop_17 : decode cX5_drop 17 = .ok (.iconst (-1), 1) := by decide +kernel
theorem dX5_drop_18 : decode cX5_drop 18 = .ok (.ireturn, 1) := by decide +kernel
theorem dX5_drop_19 : decode cX5_drop 19 = .ok (.aload_n 0, 1) := by decide +kernel
theorem dX5_drop_20 : decode cX5_drop 20 = .ok (.getfield 19, 3) := by decide +kernel
theorem dX5_drop_23 : decode cX5_drop 23 = .ok (.getfield 91, 3) := by decide +kernel
theorem dX5_drop_26 : decode cX5_drop 26 = .ok (.iload_n 1, 1) := by decide +kernel
theorem dX5_drop_27 : decode cX5_drop 27 = .ok (.invokevirtual 104, 3) := by decide +kernel
theorem dX5_drop_30 : decode cX5_drop 30 = .ok (.aload_n 0, 1) := by decide +kernel
theorem dX5_drop_31 : decode cX5_drop 31 = .ok (.getfield 19, 3) := by decide +kernel
theorem dX5_drop_34 : decode cX5_drop 34 = .ok (.getfield 91, 3) := by decide +kernel
theorem dX5_drop_37 : decode cX5_drop 37 = .ok (.getfield 95, 3) := by decide +kernel
theorem dX5_drop_40 : decode cX5_drop 40 = .ok (.ireturn, 1) := by decide +kernel
set_option maxRecDepth 20000 in
theorem ggX5_told_X5_isBelow : GoodIn wsX5_told wsX5_isBelow := goodIn_r _ [5] (by decide +kernel) (by decide +kernel)
set_option maxRecDepth 20000 in
theorem gX5_told_X5_isBelow : GoodIn wsX5_told (va_wsS RX5 35 yX5_isBelow wsX5_isBelow) := goodIn_app (goodIn_of _ (by decide +kernel)) ggX5_told_X5_isBelow
set_option maxRecDepth 20000 in
theorem ggX5_told_X3_coveredByFirst : GoodIn wsX5_told wsX3_coveredByFirst := goodIn_r _ [9, 10, 11, 12, 7, 13, 14, 15, 16, 17, 18, 19, 20, 21, 22, 30, 31, 32, 33] (by decide +kernel) (by decide +kernel)
set_option maxRecDepth 20000 in
theorem gX5_told_X3_coveredByFirst_n114 : GoodIn wsX5_told (wsX3_coveredByFirst) := ggX5_told_X3_coveredByFirst
theorem dX5_told_0 : decode cX5_told 0 = .ok (.iload_n 1, 1) := by decide +kernel
theorem dX5_told_1 : decode cX5_told 1 = .ok (.aload_n 0, 1) := by decide +kernel
theorem dX5_told_2 : decode cX5_told 2 = .ok (.getfield 19, 3) := by decide +kernel
theorem dX5_told_5 : decode cX5_told 5 = .ok (.getfield 91, 3) := by decide +kernel
theorem dX5_told_8 : decode cX5_told 8 = .ok (.getfield 95, 3) := by decide +kernel
theorem dX5_told_11 : decode cX5_told 11 = .ok (.invokestatic 35, 3) := by decide +kernel
theorem dX5_told_14 : decode cX5_told 14 = .ok (.ifCond .ne 5, 3) := by decide +kernel
theorem dX5_told_17 : decode cX5_told 17 = .ok (.iconst (-1), 1) := by decide +kernel
theorem dX5_told_18 : decode cX5_told 18 = .ok (.ireturn, 1) := by decide +kernel
theorem dX5_told_19 : decode cX5_told 19 = .ok (.iload_n 2, 1) := by decide +kernel
theorem dX5_told_20 : decode cX5_told 20 = .ok (.tableswitch 80 0 2 #[28, 41, 54], 28) := by decide +kernel
theorem dX5_told_48 : decode cX5_told 48 = .ok (.aload_n 0, 1) := by decide +kernel
theorem dX5_told_49 : decode cX5_told 49 = .ok (.getfield 19, 3) := by decide +kernel
theorem dX5_told_52 : decode cX5_told 52 = .ok (.getfield 91, 3) := by decide +kernel
theorem dX5_told_55 : decode cX5_told 55 = .ok (.getfield 108, 3) := by decide +kernel
theorem dX5_told_58 : decode cX5_told 58 = .ok (.iload_n 1, 1) := by decide +kernel
theorem dX5_told_59 : decode cX5_told 59 = .ok (.iaload, 1) := by decide +kernel
theorem dX5_told_60 : decode cX5_told 60 = .ok (.ireturn, 1) := by decide +kernel
theorem dX5_told_61 : decode cX5_told 61 = .ok (.aload_n 0, 1) := by decide +kernel
theorem dX5_told_62 : decode cX5_told 62 = .ok (.getfield 19, 3) := by decide +kernel
theorem dX5_told_65 : decode cX5_told 65 = .ok (.getfield 91, 3) := by decide +kernel
theorem dX5_told_68 : decode cX5_told 68 = .ok (.getfield 111, 3) := by decide +kernel
theorem dX5_told_71 : decode cX5_told 71 = .ok (.iload_n 1, 1) := by decide +kernel
theorem dX5_told_72 : decode cX5_told 72 = .ok (.iaload, 1) := by decide +kernel
theorem dX5_told_73 : decode cX5_told 73 = .ok (.ireturn, 1) := by decide +kernel
theorem dX5_told_74 : decode cX5_told 74 = .ok (.aload_n 0, 1) := by decide +kernel
theorem dX5_told_75 : decode cX5_told 75 = .ok (.getfield 19, 3) := by decide +kernel
theorem dX5_told_78 : decode cX5_told 78 = .ok (.getfield 91, 3) := by decide +kernel
theorem dX5_told_81 : decode cX5_told 81 = .ok (.iload_n 1, 1) := by decide +kernel
theorem dX5_told_82 : decode cX5_told 82 = .ok (.iconst 1, 1) := by decide +kernel
theorem dX5_told_83 : decode cX5_told 83 = .ok (.iadd, 1) := by decide +kernel
theorem dX5_told_84 : decode cX5_told 84 = .ok (.invokevirtual 114, 3) := by decide +kernel
theorem dX5_told_87 : decode cX5_told 87 = .ok (.aload_n 0, 1) := by decide +kernel
theorem dX5_told_88 : decode cX5_told 88 = .ok (.getfield 19, 3) := by decide +kernel
theorem dX5_told_91 : decode cX5_told 91 = .ok (.getfield 91, 3) := by decide +kernel
theorem dX5_told_94 : decode cX5_told 94 = .ok (.iload_n 1, 1) := by decide +kernel
theorem dX5_told_95 : decode cX5_told 95 = .ok (.invokevirtual 114, 3) := by decide +kernel
theorem dX5_told_98 : decode cX5_told 98 = .ok (.isub, 1) := by decide +kernel
theorem dX5_told_99 : decode cX5_told 99 = .ok (.ireturn, 1) := by decide +kernel
theorem dX5_told_100 : decode cX5_told 100 = .ok (.bipush (-2), 2) := by decide +kernel
theorem dX5_told_102 : decode cX5_told 102 = .ok (.ireturn, 1) := by decide +kernel
set_option maxRecDepth 20000 in
theorem ggX5_freed_X5_isBelow : GoodIn wsX5_freed wsX5_isBelow := goodIn_r _ [6] (by decide +kernel) (by decide +kernel)
set_option maxRecDepth 20000 in
theorem gX5_freed_X5_isBelow : GoodIn wsX5_freed (va_wsS RX5 35 yX5_isBelow wsX5_isBelow) := goodIn_app (goodIn_of _ (by decide +kernel)) ggX5_freed_X5_isBelow
set_option maxRecDepth 20000 in
theorem ggX5_freed_X0_carry : GoodIn wsX5_freed wsX0_carry := goodIn_r _ [9, 10, 11, 8, 12] (by decide +kernel) (by decide +kernel)
set_option maxRecDepth 20000 in
theorem gX5_freed_X0_carry_n87 : GoodIn wsX5_freed (wsX0_carry) := ggX5_freed_X0_carry
set_option maxRecDepth 20000 in
theorem ggX5_freed_X0_remainder : GoodIn wsX5_freed wsX0_remainder := goodIn_r _ [14] (by decide +kernel) (by decide +kernel)
set_option maxRecDepth 20000 in
theorem gX5_freed_X0_remainder_n46 : GoodIn wsX5_freed (wsX0_remainder) := ggX5_freed_X0_remainder
set_option maxRecDepth 20000 in
theorem ggX5_freed_J6_bitCount_0f7a4 : GoodIn wsX5_freed wsJ6_bitCount_0f7a4 := goodIn_r _ [18, 19, 20, 21] (by decide +kernel) (by decide +kernel)
set_option maxRecDepth 20000 in
theorem gX5_freed_J6_bitCount_0f7a4 : GoodIn wsX5_freed (va_wsS RX5 49 yJ6_bitCount_0f7a4 wsJ6_bitCount_0f7a4) := goodIn_app (goodIn_of _ (by decide +kernel)) ggX5_freed_J6_bitCount_0f7a4
set_option maxRecDepth 20000 in
theorem ggX5_freed_X0_carryBack : GoodIn wsX5_freed wsX0_carryBack := goodIn_r _ [23, 10, 11, 8, 12] (by decide +kernel) (by decide +kernel)
set_option maxRecDepth 20000 in
theorem gX5_freed_X0_carryBack_n117 : GoodIn wsX5_freed (wsX0_carryBack) := ggX5_freed_X0_carryBack
theorem dX5_freed_0 : decode cX5_freed 0 = .ok (.iload_n 1, 1) := by decide +kernel
theorem dX5_freed_1 : decode cX5_freed 1 = .ok (.ldc 45, 2) := by decide +kernel
theorem dX5_freed_3 : decode cX5_freed 3 = .ok (.invokestatic 35, 3) := by decide +kernel
theorem dX5_freed_6 : decode cX5_freed 6 = .ok (.ifCond .eq 11, 3) := by decide +kernel
theorem dX5_freed_9 : decode cX5_freed 9 = .ok (.iload_n 2, 1) := by decide +kernel
theorem dX5_freed_10 : decode cX5_freed 10 = .ok (.iconst 2, 1) := by decide +kernel
theorem dX5_freed_11 : decode cX5_freed 11 = .ok (.invokestatic 35, 3) := by decide +kernel
theorem dX5_freed_14 : decode cX5_freed 14 = .ok (.ifCond .ne 6, 3) := by decide +kernel
theorem dX5_freed_17 : decode cX5_freed 17 = .ok (.bipush (-2), 2) := by decide +kernel
theorem dX5_freed_19 : decode cX5_freed 19 = .ok (.ireturn, 1) := by decide +kernel
theorem dX5_freed_20 : decode cX5_freed 20 = .ok (.iconst 0, 1) := by decide +kernel
theorem dX5_freed_21 : decode cX5_freed 21 = .ok (.istore_n 3, 1) := by decide +kernel
theorem dX5_freed_22 : decode cX5_freed 22 = .ok (.iload_n 3, 1) := by decide +kernel
theorem dX5_freed_23 : decode cX5_freed 23 = .ok (.aload_n 0, 1) := by decide +kernel
theorem dX5_freed_24 : decode cX5_freed 24 = .ok (.getfield 19, 3) := by decide +kernel
