theorem dX6_moved_12 : decode cX6_moved 12 = .ok (.ifCond .eq 12, 3) := by decide +kernel
theorem dX6_moved_15 : decode cX6_moved 15 = .ok (.iload_n 1, 1) := by decide +kernel
theorem dX6_moved_16 : decode cX6_moved 16 = .ok (.iload_n 2, 1) := by decide +kernel
theorem dX6_moved_17 : decode cX6_moved 17 = .ok (.iload_n 3, 1) := by decide +kernel
theorem dX6_moved_18 : decode cX6_moved 18 = .ok (.invokestatic 71, 3) := by decide +kernel
theorem dX6_moved_21 : decode cX6_moved 21 = .ok (.goto 5, 3) := by decide +kernel
theorem dX6_moved_24 : decode cX6_moved 24 = .ok (.bipush (-2), 2) := by decide +kernel
theorem dX6_moved_26 : decode cX6_moved 26 = .ok (.ireturn, 1) := by decide +kernel
set_option maxRecDepth 20000 in
theorem ggX6_move_X6_isMove : GoodIn wsX6_move wsX6_isMove := goodIn_r _ [5, 6, 7, 4, 8] (by decide +kernel) (by decide +kernel)
set_option maxRecDepth 20000 in
theorem gX6_move_X6_isMove : GoodIn wsX6_move (va_wsS RX6 74 yX6_isMove wsX6_isMove) := goodIn_app (goodIn_of _ (by decide +kernel)) ggX6_move_X6_isMove
set_option maxRecDepth 20000 in
theorem ggX6_move_X6_keepsCode : GoodIn wsX6_move wsX6_keepsCode := goodIn_r _ [11, 12, 13, 4, 14, 15, 16, 17, 18, 19, 20, 21, 22, 23] (by decide +kernel) (by decide +kernel)
set_option maxRecDepth 20000 in
theorem gX6_move_X6_keepsCode : GoodIn wsX6_move (va_wsS RX6 78 yX6_keepsCode wsX6_keepsCode) := goodIn_app (goodIn_of _ (by decide +kernel)) ggX6_move_X6_keepsCode
theorem dX6_move_0 : decode cX6_move 0 = .ok (.iload_n 1, 1) := by decide +kernel
theorem dX6_move_1 : decode cX6_move 1 = .ok (.iload_n 2, 1) := by decide +kernel
theorem dX6_move_2 : decode cX6_move 2 = .ok (.invokestatic 74, 3) := by decide +kernel
theorem dX6_move_5 : decode cX6_move 5 = .ok (.ifCond .ne 6, 3) := by decide +kernel
theorem dX6_move_8 : decode cX6_move 8 = .ok (.bipush (-2), 2) := by decide +kernel
theorem dX6_move_10 : decode cX6_move 10 = .ok (.ireturn, 1) := by decide +kernel
theorem dX6_move_11 : decode cX6_move 11 = .ok (.iload_n 1, 1) := by decide +kernel
theorem dX6_move_12 : decode cX6_move 12 = .ok (.iload_n 2, 1) := by decide +kernel
theorem dX6_move_13 : decode cX6_move 13 = .ok (.invokestatic 78, 3) := by decide +kernel
theorem dX6_move_16 : decode cX6_move 16 = .ok (.ifCond .ne 6, 3) := by decide +kernel
theorem dX6_move_19 : decode cX6_move 19 = .ok (.bipush (-5), 2) := by decide +kernel
theorem dX6_move_21 : decode cX6_move 21 = .ok (.ireturn, 1) := by decide +kernel
theorem dX6_move_22 : decode cX6_move 22 = .ok (.aload_n 0, 1) := by decide +kernel
theorem dX6_move_23 : decode cX6_move 23 = .ok (.getfield 7, 3) := by decide +kernel
theorem dX6_move_26 : decode cX6_move 26 = .ok (.iconst 0, 1) := by decide +kernel
theorem dX6_move_27 : decode cX6_move 27 = .ok (.iaload, 1) := by decide +kernel
theorem dX6_move_28 : decode cX6_move 28 = .ok (.istore_n 3, 1) := by decide +kernel
theorem dX6_move_29 : decode cX6_move 29 = .ok (.iload_n 3, 1) := by decide +kernel
theorem dX6_move_30 : decode cX6_move 30 = .ok (.bipush 8, 2) := by decide +kernel
theorem dX6_move_32 : decode cX6_move 32 = .ok (.if_icmp .ne 6, 3) := by decide +kernel
theorem dX6_move_35 : decode cX6_move 35 = .ok (.bipush (-4), 2) := by decide +kernel
theorem dX6_move_37 : decode cX6_move 37 = .ok (.ireturn, 1) := by decide +kernel
theorem dX6_move_38 : decode cX6_move 38 = .ok (.aload_n 0, 1) := by decide +kernel
theorem dX6_move_39 : decode cX6_move 39 = .ok (.getfield 7, 3) := by decide +kernel
theorem dX6_move_42 : decode cX6_move 42 = .ok (.iconst 1, 1) := by decide +kernel
theorem dX6_move_43 : decode cX6_move 43 = .ok (.iload_n 3, 1) := by decide +kernel
theorem dX6_move_44 : decode cX6_move 44 = .ok (.iadd, 1) := by decide +kernel
theorem dX6_move_45 : decode cX6_move 45 = .ok (.iload_n 1, 1) := by decide +kernel
theorem dX6_move_46 : decode cX6_move 46 = .ok (.iastore, 1) := by decide +kernel
theorem dX6_move_47 : decode cX6_move 47 = .ok (.aload_n 0, 1) := by decide +kernel
theorem dX6_move_48 : decode cX6_move 48 = .ok (.getfield 7, 3) := by decide +kernel
theorem dX6_move_51 : decode cX6_move 51 = .ok (.bipush 9, 2) := by decide +kernel
theorem dX6_move_53 : decode cX6_move 53 = .ok (.iload_n 3, 1) := by decide +kernel
theorem dX6_move_54 : decode cX6_move 54 = .ok (.iadd, 1) := by decide +kernel
theorem dX6_move_55 : decode cX6_move 55 = .ok (.iload_n 2, 1) := by decide +kernel
theorem dX6_move_56 : decode cX6_move 56 = .ok (.iastore, 1) := by decide +kernel
theorem dX6_move_57 : decode cX6_move 57 = .ok (.aload_n 0, 1) := by decide +kernel
theorem dX6_move_58 : decode cX6_move 58 = .ok (.getfield 7, 3) := by decide +kernel
theorem dX6_move_61 : decode cX6_move 61 = .ok (.iconst 0, 1) := by decide +kernel
theorem dX6_move_62 : decode cX6_move 62 = .ok (.dup2, 1) := by decide +kernel
theorem dX6_move_63 : decode cX6_move 63 = .ok (.iaload, 1) := by decide +kernel
theorem dX6_move_64 : decode cX6_move 64 = .ok (.iconst 1, 1) := by decide +kernel
theorem dX6_move_65 : decode cX6_move 65 = .ok (.iadd, 1) := by decide +kernel
theorem dX6_move_66 : decode cX6_move 66 = .ok (.iastore, 1) := by decide +kernel
theorem dX6_move_67 : decode cX6_move 67 = .ok (.iload_n 3, 1) := by decide +kernel
theorem dX6_move_68 : decode cX6_move 68 = .ok (.ireturn, 1) := by decide +kernel
set_option maxRecDepth 20000 in
theorem ggX6_isThere_X6_in : GoodIn wsX6_isThere wsX6_in := goodIn_r _ [5] (by decide +kernel) (by decide +kernel)
set_option maxRecDepth 20000 in
theorem gX6_isThere_X6_in : GoodIn wsX6_isThere (va_wsS RX6 35 yX6_in wsX6_in) := goodIn_app (goodIn_of _ (by decide +kernel)) ggX6_isThere_X6_in
theorem dX6_isThere_0 : decode cX6_isThere 0 = .ok (.iload_n 1, 1) := by decide +kernel
theorem dX6_isThere_1 : decode cX6_isThere 1 = .ok (.iconst 0, 1) := by decide +kernel
theorem dX6_isThere_2 : decode cX6_isThere 2 = .ok (.aload_n 0, 1) := by decide +kernel
theorem dX6_isThere_3 : decode cX6_isThere 3 = .ok (.getfield 7, 3) := by decide +kernel
theorem dX6_isThere_6 : decode cX6_isThere 6 = .ok (.iconst 0, 1) := by decide +kernel
theorem dX6_isThere_7 : decode cX6_isThere 7 = .ok (.iaload, 1) := by decide +kernel
theorem dX6_isThere_8 : decode cX6_isThere 8 = .ok (.iconst 1, 1) := by decide +kernel
theorem dX6_isThere_9 : decode cX6_isThere 9 = .ok (.isub, 1) := by decide +kernel
theorem dX6_isThere_10 : decode cX6_isThere 10 = .ok (.invokestatic 35, 3) := by decide +kernel
theorem dX6_isThere_13 : decode cX6_isThere 13 = .ok (.ireturn, 1) := by decide +kernel
set_option maxRecDepth 20000 in
theorem ggX6_drop_X6_isThere : GoodIn wsX6_drop wsX6_isThere := goodIn_r _ [6, 1, 7, 8, 5, 9, 10, 11, 12, 13, 14, 15, 16] (by decide +kernel) (by decide +kernel)
set_option maxRecDepth 20000 in
theorem gX6_drop_X6_isThere : GoodIn wsX6_drop (wsV RX6 81 RX6 yX6_isThere wsX6_isThere) := goodIn_app (goodIn_of _ (by decide +kernel)) ggX6_drop_X6_isThere
theorem dX6_drop_0 : decode cX6_drop 0 = .ok (.aload_n 0, 1) := by decide +kernel
theorem dX6_drop_1 : decode cX6_drop 1 = .ok (.iload_n 1, 1) := by decide +kernel
theorem dX6_drop_2 : decode cX6_drop 2 = .ok (.invokevirtual 81, 3) := by decide +kernel
theorem dX6_drop_5 : decode cX6_drop 5 = .ok (.ifCond .ne 5, 3) := by decide +kernel
theorem dX6_drop_8 : decode cX6_drop 8 = .ok (.iconst (-1), 1) := by decide +kernel
theorem dX6_drop_9 : decode cX6_drop 9 = .ok (.ireturn, 1) := by decide +kernel
theorem dX6_drop_10 : decode cX6_drop 10 = .ok (.iload_n 1, 1) := by decide +kernel
theorem dX6_drop_11 : decode cX6_drop 11 = .ok (.istore_n 2, 1) := by decide +kernel
theorem dX6_drop_12 : decode cX6_drop 12 = .ok (.iload_n 2, 1) := by decide +kernel
theorem dX6_drop_13 : decode cX6_drop 13 = .ok (.iconst 1, 1) := by decide +kernel
theorem dX6_drop_14 : decode cX6_drop 14 = .ok (.iadd, 1) := by decide +kernel
theorem dX6_drop_15 : decode cX6_drop 15 = .ok (.aload_n 0, 1) := by decide +kernel
theorem dX6_drop_16 : decode cX6_drop 16 = .ok (.getfield 7, 3) := by decide +kernel
theorem dX6_drop_19 : decode cX6_drop 19 = .ok (.iconst 0, 1) := by decide +kernel
theorem dX6_drop_20 : decode cX6_drop 20 = .ok (.iaload, 1) := by decide +kernel
theorem dX6_drop_21 : decode cX6_drop 21 = .ok (.if_icmp .ge 47, 3) := by decide +kernel
theorem dX6_drop_24 : decode cX6_drop 24 = .ok (.aload_n 0, 1) := by decide +kernel
theorem dX6_drop_25 : decode cX6_drop 25 = .ok (.getfield 7, 3) := by decide +kernel
theorem dX6_drop_28 : decode cX6_drop 28 = .ok (.iconst 1, 1) := by decide +kernel
theorem dX6_drop_29 : decode cX6_drop 29 = .ok (.iload_n 2, 1) := by decide +kernel
theorem dX6_drop_30 : decode cX6_drop 30 = .ok (.iadd, 1) := by decide +kernel
theorem dX6_drop_31 : decode cX6_drop 31 = .ok (.aload_n 0, 1) := by decide +kernel
theorem dX6_drop_32 : decode cX6_drop 32 = .ok (.getfield 7, 3) := by decide +kernel
theorem dX6_drop_35 : decode cX6_drop 35 = .ok (.iconst 1, 1) := by decide +kernel
theorem dX6_drop_36 : decode cX6_drop 36 = .ok (.iload_n 2, 1) := by decide +kernel
theorem dX6_drop_37 : decode cX6_drop 37 = .ok (.iadd, 1) := by decide +kernel
theorem dX6_drop_38 : decode cX6_drop 38 = .ok (.iconst 1, 1) := by decide +kernel
theorem dX6_drop_39 : decode cX6_drop 39 = .ok (.iadd, 1) := by decide +kernel
theorem dX6_drop_40 : decode cX6_drop 40 = .ok (.iaload, 1) := by decide +kernel
theorem dX6_drop_41 : decode cX6_drop 41 = .ok (.iastore, 1) := by decide +kernel
theorem dX6_drop_42 : decode cX6_drop 42 = .ok (.aload_n 0, 1) := by decide +kernel
theorem dX6_drop_43 : decode cX6_drop 43 = .ok (.getfield 7, 3) := by decide +kernel
theorem dX6_drop_46 : decode cX6_drop 46 = .ok (.bipush 9, 2) := by decide +kernel
theorem dX6_drop_48 : decode cX6_drop 48 = .ok (.iload_n 2, 1) := by decide +kernel
theorem dX6_drop_49 : decode cX6_drop 49 = .ok (.iadd, 1) := by decide +kernel
theorem dX6_drop_50 : decode cX6_drop 50 = .ok (.aload_n 0, 1) := by decide +kernel
theorem dX6_drop_51 : decode cX6_drop 51 = .ok (.getfield 7, 3) := by decide +kernel
theorem dX6_drop_54 : decode cX6_drop 54 = .ok (.bipush 9, 2) := by decide +kernel
theorem dX6_drop_56 : decode cX6_drop 56 = .ok (.iload_n 2, 1) := by decide +kernel
theorem dX6_drop_57 : decode cX6_drop 57 = .ok (.iadd, 1) := by decide +kernel
theorem dX6_drop_58 : decode cX6_drop 58 = .ok (.iconst 1, 1) := by decide +kernel
theorem dX6_drop_59 : decode cX6_drop 59 = .ok (.iadd, 1) := by decide +kernel
theorem dX6_drop_60 : decode cX6_drop 60 = .ok (.iaload, 1) := by decide +kernel
theorem dX6_drop_61 : decode cX6_drop 61 = .ok (.iastore, 1) := by decide +kernel
theorem dX6_drop_62 : decode cX6_drop 62 = .ok (.iinc 2 1, 3) := by decide +kernel
theorem dX6_drop_65 : decode cX6_drop 65 = .ok (.goto (-53), 3) := by decide +kernel
theorem dX6_drop_68 : decode cX6_drop 68 = .ok (.aload_n 0, 1) := by decide +kernel
theorem dX6_drop_69 : decode cX6_drop 69 = .ok (.getfield 7, 3) := by decide +kernel
theorem dX6_drop_72 : decode cX6_drop 72 = .ok (.iconst 0, 1) := by decide +kernel
theorem dX6_drop_73 : decode cX6_drop 73 = .ok (.dup2, 1) := by decide +kernel
theorem dX6_drop_74 : decode cX6_drop 74 = .ok (.iaload, 1) := by decide +kernel
theorem dX6_drop_75 : decode cX6_drop 75 = .ok (.iconst 1, 1) := by decide +kernel
theorem dX6_drop_76 : decode cX6_drop 76 = .ok (.isub, 1) := by decide +kernel
theorem dX6_drop_77 : decode cX6_drop 77 = .ok (.iastore, 1) := by decide +kernel
theorem dX6_drop_78 : decode cX6_drop 78 = .ok (.aload_n 0, 1) := by decide +kernel
theorem dX6_drop_79 : decode cX6_drop 79 = .ok (.getfield 7, 3) := by decide +kernel
theorem dX6_drop_82 : decode cX6_drop 82 = .ok (.iconst 0, 1) := by decide +kernel
theorem dX6_drop_83 : decode cX6_drop 83 = .ok (.iaload, 1) := by decide +kernel
theorem dX6_drop_84 : decode cX6_drop 84 = .ok (.ireturn, 1) := by decide +kernel
set_option maxRecDepth 20000 in
theorem ggX6_bringsTo_X6_place : GoodIn wsX6_bringsTo wsX6_place := goodIn_r _ [5] (by decide +kernel) (by decide +kernel)
set_option maxRecDepth 20000 in
theorem gX6_bringsTo_X6_place : GoodIn wsX6_bringsTo (va_wsS RX6 67 yX6_place wsX6_place) := goodIn_app (goodIn_of _ (by decide +kernel)) ggX6_bringsTo_X6_place
theorem dX6_bringsTo_0 : decode cX6_bringsTo 0 = .ok (.iload_n 2, 1) := by decide +kernel
theorem dX6_bringsTo_1 : decode cX6_bringsTo 1 = .ok (.aload_n 0, 1) := by decide +kernel
theorem dX6_bringsTo_2 : decode cX6_bringsTo 2 = .ok (.getfield 7, 3) := by decide +kernel
theorem dX6_bringsTo_5 : decode cX6_bringsTo 5 = .ok (.iconst 1, 1) := by decide +kernel
theorem dX6_bringsTo_6 : decode cX6_bringsTo 6 = .ok (.iload_n 1, 1) := by decide +kernel
theorem dX6_bringsTo_7 : decode cX6_bringsTo 7 = .ok (.iadd, 1) := by decide +kernel
theorem dX6_bringsTo_8 : decode cX6_bringsTo 8 = .ok (.iaload, 1) := by decide +kernel
theorem dX6_bringsTo_9 : decode cX6_bringsTo 9 = .ok (.aload_n 0, 1) := by decide +kernel
theorem dX6_bringsTo_10 : decode cX6_bringsTo 10 = .ok (.getfield 7, 3) := by decide +kernel
theorem dX6_bringsTo_13 : decode cX6_bringsTo 13 = .ok (.bipush 9, 2) := by decide +kernel
theorem dX6_bringsTo_15 : decode cX6_bringsTo 15 = .ok (.iload_n 1, 1) := by decide +kernel
theorem dX6_bringsTo_16 : decode cX6_bringsTo 16 = .ok (.iadd, 1) := by decide +kernel
theorem dX6_bringsTo_17 : decode cX6_bringsTo 17 = .ok (.iaload, 1) := by decide +kernel
theorem dX6_bringsTo_18 : decode cX6_bringsTo 18 = .ok (.invokestatic 67, 3) := by decide +kernel
theorem dX6_bringsTo_21 : decode cX6_bringsTo 21 = .ok (.bipush 11, 2) := by decide +kernel
theorem dX6_bringsTo_23 : decode cX6_bringsTo 23 = .ok (.if_icmp .ge 7, 3) := by decide +kernel
theorem dX6_bringsTo_26 : decode cX6_bringsTo 26 = .ok (.iconst 1, 1) := by decide +kernel
theorem dX6_bringsTo_27 : decode cX6_bringsTo 27 = .ok (.goto 4, 3) := by decide +kernel
theorem dX6_bringsTo_30 : decode cX6_bringsTo 30 = .ok (.iconst 0, 1) := by decide +kernel
theorem dX6_bringsTo_31 : decode cX6_bringsTo 31 = .ok (.ireturn, 1) := by decide +kernel
set_option maxRecDepth 20000 in
theorem ggX6_coveredBy_X6_bringsTo : GoodIn wsX6_coveredBy wsX6_bringsTo := goodIn_r _ [6, 1, 7, 8, 5, 9, 10, 11, 12, 13, 14, 15, 16] (by decide +kernel) (by decide +kernel)
set_option maxRecDepth 20000 in
theorem gX6_coveredBy_X6_bringsTo : GoodIn wsX6_coveredBy (wsV RX6 84 RX6 yX6_bringsTo wsX6_bringsTo) := goodIn_app (goodIn_of _ (by decide +kernel)) ggX6_coveredBy_X6_bringsTo
theorem dX6_coveredBy_0 : decode cX6_coveredBy 0 = .ok (.iconst 0, 1) := by decide +kernel
theorem dX6_coveredBy_1 : decode cX6_coveredBy 1 = .ok (.istore 4, 2) := by decide +kernel
theorem dX6_coveredBy_3 : decode cX6_coveredBy 3 = .ok (.iload 4, 2) := by decide +kernel
theorem dX6_coveredBy_5 : decode cX6_coveredBy 5 = .ok (.aload_n 0, 1) := by decide +kernel
theorem dX6_coveredBy_6 : decode cX6_coveredBy 6 = .ok (.getfield 7, 3) := by decide +kernel
theorem dX6_coveredBy_9 : decode cX6_coveredBy 9 = .ok (.iconst 0, 1) := by decide +kernel
theorem dX6_coveredBy_10 : decode cX6_coveredBy 10 = .ok (.iaload, 1) := by decide +kernel
theorem dX6_coveredBy_11 : decode cX6_coveredBy 11 = .ok (.if_icmp .ge 39, 3) := by decide +kernel
theorem dX6_coveredBy_14 : decode cX6_coveredBy 14 = .ok (.aload_n 0, 1) := by decide +kernel
theorem dX6_coveredBy_15 : decode cX6_coveredBy 15 = .ok (.iload 4, 2) := by decide +kernel
theorem dX6_coveredBy_17 : decode cX6_coveredBy 17 = .ok (.iload_n 1, 1) := by decide +kernel
theorem dX6_coveredBy_18 : decode cX6_coveredBy 18 = .ok (.invokevirtual 84, 3) := by decide +kernel
theorem dX6_coveredBy_21 : decode cX6_coveredBy 21 = .ok (.ifCond .eq 23, 3) := by decide +kernel
theorem dX6_coveredBy_24 : decode cX6_coveredBy 24 = .ok (.aload_n 0, 1) := by decide +kernel
theorem dX6_coveredBy_25 : decode cX6_coveredBy 25 = .ok (.iload 4, 2) := by decide +kernel
theorem dX6_coveredBy_27 : decode cX6_coveredBy 27 = .ok (.iload_n 2, 1) := by decide +kernel
theorem dX6_coveredBy_28 : decode cX6_coveredBy 28 = .ok (.invokevirtual 84, 3) := by decide +kernel
theorem dX6_coveredBy_31 : decode cX6_coveredBy 31 = .ok (.ifCond .eq 13, 3) := by decide +kernel
theorem dX6_coveredBy_34 : decode cX6_coveredBy 34 = .ok (.aload_n 0, 1) := by decide +kernel
theorem dX6_coveredBy_35 : decode cX6_coveredBy 35 = .ok (.iload 4, 2) := by decide +kernel
theorem dX6_coveredBy_37 : decode cX6_coveredBy 37 = .ok (.iload_n 3, 1) := by decide +kernel
theorem dX6_coveredBy_38 : decode cX6_coveredBy 38 = .ok (.invokevirtual 84, 3) := by decide +kernel
theorem dX6_coveredBy_41 : decode cX6_coveredBy 41 = .ok (.ifCond .ne 9, 3) := by decide +kernel
theorem dX6_coveredBy_44 : decode cX6_coveredBy 44 = .ok (.iinc 4 1, 3) := by decide +kernel
theorem dX6_coveredBy_47 : decode cX6_coveredBy 47 = .ok (.goto (-44), 3) := by decide +kernel
theorem dX6_coveredBy_50 : decode cX6_coveredBy 50 = .ok (.iload 4, 2) := by decide +kernel
theorem dX6_coveredBy_52 : decode cX6_coveredBy 52 = .ok (.ireturn, 1) := by decide +kernel
set_option maxRecDepth 20000 in
theorem ggX6_layTriples_X6_coveredBy : GoodIn wsX6_layTriples wsX6_coveredBy := goodIn_r _ [7, 8, 9, 10, 11, 6, 12, 13, 14, 15, 16, 17, 18, 19, 20, 21, 22] (by decide +kernel) (by decide +kernel)
set_option maxRecDepth 20000 in
theorem gX6_layTriples_X6_coveredBy : GoodIn wsX6_layTriples (wsV RX6 94 RX6 yX6_coveredBy wsX6_coveredBy) := goodIn_app (goodIn_of _ (by decide +kernel)) ggX6_layTriples_X6_coveredBy
theorem dX6_layTriples_0 : decode cX6_layTriples 0 = .ok (.aload_n 0, 1) := by decide +kernel
theorem dX6_layTriples_1 : decode cX6_layTriples 1 = .ok (.iconst 0, 1) := by decide +kernel
theorem dX6_layTriples_2 : decode cX6_layTriples 2 = .ok (.putfield 87, 3) := by decide +kernel
theorem dX6_layTriples_5 : decode cX6_layTriples 5 = .ok (.aload_n 0, 1) := by decide +kernel
theorem dX6_layTriples_6 : decode cX6_layTriples 6 = .ok (.bipush (-6), 2) := by decide +kernel
theorem dX6_layTriples_8 : decode cX6_layTriples 8 = .ok (.putfield 91, 3) := by decide +kernel
theorem dX6_layTriples_11 : decode cX6_layTriples 11 = .ok (.iconst 0, 1) := by decide +kernel
theorem dX6_layTriples_12 : decode cX6_layTriples 12 = .ok (.istore_n 2, 1) := by decide +kernel
theorem dX6_layTriples_13 : decode cX6_layTriples 13 = .ok (.iload_n 2, 1) := by decide +kernel
theorem dX6_layTriples_14 : decode cX6_layTriples 14 = .ok (.bipush 23, 2) := by decide +kernel
theorem dX6_layTriples_16 : decode cX6_layTriples 16 = .ok (.if_icmp .ge 96, 3) := by decide +kernel
theorem dX6_layTriples_19 : decode cX6_layTriples 19 = .ok (.iload_n 2, 1) := by decide +kernel
theorem dX6_layTriples_20 : decode cX6_layTriples 20 = .ok (.iconst 1, 1) := by decide +kernel
theorem dX6_layTriples_21 : decode cX6_layTriples 21 = .ok (.iadd, 1) := by decide +kernel
theorem dX6_layTriples_22 : decode cX6_layTriples 22 = .ok (.istore_n 3, 1) := by decide +kernel
theorem dX6_layTriples_23 : decode cX6_layTriples 23 = .ok (.iload_n 3, 1) := by decide +kernel
theorem dX6_layTriples_24 : decode cX6_layTriples 24 = .ok (.bipush 23, 2) := by decide +kernel
theorem dX6_layTriples_26 : decode cX6_layTriples 26 = .ok (.if_icmp .ge 80, 3) := by decide +kernel
theorem dX6_layTriples_29 : decode cX6_layTriples 29 = .ok (.iload_n 3, 1) := by decide +kernel
theorem dX6_layTriples_30 : decode cX6_layTriples 30 = .ok (.iconst 1, 1) := by decide +kernel
theorem dX6_layTriples_31 : decode cX6_layTriples 31 = .ok (.iadd, 1) := by decide +kernel
theorem dX6_layTriples_32 : decode cX6_layTriples 32 = .ok (.istore 4, 2) := by decide +kernel
theorem dX6_layTriples_34 : decode cX6_layTriples 34 = .ok (.iload 4, 2) := by decide +kernel
theorem dX6_layTriples_36 : decode cX6_layTriples 36 = .ok (.bipush 23, 2) := by decide +kernel
theorem dX6_layTriples_38 : decode cX6_layTriples 38 = .ok (.if_icmp .ge 62, 3) := by decide +kernel
theorem dX6_layTriples_41 : decode cX6_layTriples 41 = .ok (.aload_n 0, 1) := by decide +kernel
theorem dX6_layTriples_42 : decode cX6_layTriples 42 = .ok (.iload_n 2, 1) := by decide +kernel
theorem dX6_layTriples_43 : decode cX6_layTriples 43 = .ok (.iload_n 3, 1) := by decide +kernel
theorem dX6_layTriples_44 : decode cX6_layTriples 44 = .ok (.iload 4, 2) := by decide +kernel
theorem dX6_layTriples_46 : decode cX6_layTriples 46 = .ok (.invokevirtual 94, 3) := by decide +kernel
theorem dX6_layTriples_49 : decode cX6_layTriples 49 = .ok (.iload_n 1, 1) := by decide +kernel
theorem dX6_layTriples_50 : decode cX6_layTriples 50 = .ok (.if_icmp .ne 44, 3) := by decide +kernel
theorem dX6_layTriples_53 : decode cX6_layTriples 53 = .ok (.aload_n 0, 1) := by decide +kernel
theorem dX6_layTriples_54 : decode cX6_layTriples 54 = .ok (.aload_n 0, 1) := by decide +kernel
theorem dX6_layTriples_55 : decode cX6_layTriples 55 = .ok (.getfield 87, 3) := by decide +kernel
theorem dX6_layTriples_58 : decode cX6_layTriples 58 = .ok (.ifCond .ne 19, 3) := by decide +kernel
theorem dX6_layTriples_61 : decode cX6_layTriples 61 = .ok (.sipush 529, 3) := by decide +kernel
theorem dX6_layTriples_64 : decode cX6_layTriples 64 = .ok (.iload_n 2, 1) := by decide +kernel
theorem dX6_layTriples_65 : decode cX6_layTriples 65 = .ok (.imul, 1) := by decide +kernel
theorem dX6_layTriples_66 : decode cX6_layTriples 66 = .ok (.bipush 23, 2) := by decide +kernel
theorem dX6_layTriples_68 : decode cX6_layTriples 68 = .ok (.iload_n 3, 1) := by decide +kernel
theorem dX6_layTriples_69 : decode cX6_layTriples 69 = .ok (.imul, 1) := by decide +kernel
theorem dX6_layTriples_70 : decode cX6_layTriples 70 = .ok (.iadd, 1) := by decide +kernel
theorem dX6_layTriples_71 : decode cX6_layTriples 71 = .ok (.iload 4, 2) := by decide +kernel
theorem dX6_layTriples_73 : decode cX6_layTriples 73 = .ok (.iadd, 1) := by decide +kernel
theorem dX6_layTriples_74 : decode cX6_layTriples 74 = .ok (.goto 7, 3) := by decide +kernel
theorem dX6_layTriples_77 : decode cX6_layTriples 77 = .ok (.aload_n 0, 1) := by decide +kernel
theorem dX6_layTriples_78 : decode cX6_layTriples 78 = .ok (.getfield 91, 3) := by decide +kernel
theorem dX6_layTriples_81 : decode cX6_layTriples 81 = .ok (.putfield 91, 3) := by decide +kernel
theorem dX6_layTriples_84 : decode cX6_layTriples 84 = .ok (.aload_n 0, 1) := by decide +kernel
theorem dX6_layTriples_85 : decode cX6_layTriples 85 = .ok (.dup, 1) := by decide +kernel
theorem dX6_layTriples_86 : decode cX6_layTriples 86 = .ok (.getfield 87, 3) := by decide +kernel
theorem dX6_layTriples_89 : decode cX6_layTriples 89 = .ok (.iconst 1, 1) := by decide +kernel
theorem dX6_layTriples_90 : decode cX6_layTriples 90 = .ok (.iadd, 1) := by decide +kernel
theorem dX6_layTriples_91 : decode cX6_layTriples 91 = .ok (.putfield 87, 3) := by decide +kernel
theorem dX6_layTriples_94 : decode cX6_layTriples 94 = .ok (.iinc 4 1, 3) := by decide +kernel
theorem dX6_layTriples_97 : decode cX6_layTriples 97 = .ok (.goto (-63), 3) := by decide +kernel
theorem dX6_layTriples_100 : decode cX6_layTriples 100 = .ok (.iinc 3 1, 3) := by decide +kernel
theorem dX6_layTriples_103 : decode cX6_layTriples 103 = .ok (.goto (-80), 3) := by decide +kernel
theorem dX6_layTriples_106 : decode cX6_layTriples 106 = .ok (.iinc 2 1, 3) := by decide +kernel
theorem dX6_layTriples_109 : decode cX6_layTriples 109 = .ok (.goto (-96), 3) := by decide +kernel
theorem dX6_layTriples_112 : decode cX6_layTriples 112 = .ok (.return_, 1) := by decide +kernel
set_option maxRecDepth 20000 in
theorem ggX6_told_X6_isThere : GoodIn wsX6_told wsX6_isThere := goodIn_r _ [7, 1, 8, 9, 6, 10, 27, 28, 29, 30, 31, 32, 33] (by decide +kernel) (by decide +kernel)
set_option maxRecDepth 20000 in
theorem gX6_told_X6_isThere : GoodIn wsX6_told (wsV RX6 81 RX6 yX6_isThere wsX6_isThere) := goodIn_app (goodIn_of _ (by decide +kernel)) ggX6_told_X6_isThere
set_option maxRecDepth 20000 in
theorem ggX6_told_X6_in : GoodIn wsX6_told wsX6_in := goodIn_r _ [10] (by decide +kernel) (by decide +kernel)
set_option maxRecDepth 20000 in
theorem gX6_told_X6_in : GoodIn wsX6_told (va_wsS RX6 35 yX6_in wsX6_in) := goodIn_app (goodIn_of _ (by decide +kernel)) ggX6_told_X6_in
set_option maxRecDepth 20000 in
theorem ggX6_told_X6_layTriples : GoodIn wsX6_told wsX6_layTriples := goodIn_r _ [14, 2, 15, 16, 17, 18, 6, 19, 1, 20, 21, 22, 23, 24, 25, 26, 27, 28, 29, 30, 31, 32, 33] (by decide +kernel) (by decide +kernel)
set_option maxRecDepth 20000 in
theorem gX6_told_X6_layTriples : GoodIn wsX6_told (wsV RX6 97 RX6 yX6_layTriples wsX6_layTriples) := goodIn_app (goodIn_of _ (by decide +kernel)) ggX6_told_X6_layTriples
theorem dX6_told_0 : decode cX6_told 0 = .ok (.aload_n 0, 1) := by decide +kernel
theorem dX6_told_1 : decode cX6_told 1 = .ok (.iload_n 1, 1) := by decide +kernel
theorem dX6_told_2 : decode cX6_told 2 = .ok (.invokevirtual 81, 3) := by decide +kernel
theorem dX6_told_5 : decode cX6_told 5 = .ok (.ifCond .ne 5, 3) := by decide +kernel
theorem dX6_told_8 : decode cX6_told 8 = .ok (.iconst (-1), 1) := by decide +kernel
theorem dX6_told_9 : decode cX6_told 9 = .ok (.ireturn, 1) := by decide +kernel
theorem dX6_told_10 : decode cX6_told 10 = .ok (.iload_n 2, 1) := by decide +kernel
theorem dX6_told_11 : decode cX6_told 11 = .ok (.iconst 0, 1) := by decide +kernel
theorem dX6_told_12 : decode cX6_told 12 = .ok (.iconst 2, 1) := by decide +kernel
theorem dX6_told_13 : decode cX6_told 13 = .ok (.invokestatic 35, 3) := by decide +kernel
theorem dX6_told_16 : decode cX6_told 16 = .ok (.ifCond .ne 6, 3) := by decide +kernel
theorem dX6_told_19 : decode cX6_told 19 = .ok (.bipush (-2), 2) := by decide +kernel
theorem dX6_told_21 : decode cX6_told 21 = .ok (.ireturn, 1) := by decide +kernel
theorem dX6_told_22 : decode cX6_told 22 = .ok (.aload_n 0, 1) := by decide +kernel
theorem dX6_told_23 : decode cX6_told 23 = .ok (.iload_n 1, 1) := by decide +kernel
theorem dX6_told_24 : decode cX6_told 24 = .ok (.invokevirtual 97, 3) := by decide +kernel
theorem dX6_told_27 : decode cX6_told 27 = .ok (.iload_n 2, 1) := by decide +kernel
theorem dX6_told_28 : decode cX6_told 28 = .ok (.ifCond .ne 14, 3) := by decide +kernel
theorem dX6_told_31 : decode cX6_told 31 = .ok (.aload_n 0, 1) := by decide +kernel
theorem dX6_told_32 : decode cX6_told 32 = .ok (.getfield 7, 3) := by decide +kernel
theorem dX6_told_35 : decode cX6_told 35 = .ok (.iconst 1, 1) := by decide +kernel
theorem dX6_told_36 : decode cX6_told 36 = .ok (.iload_n 1, 1) := by decide +kernel
theorem dX6_told_37 : decode cX6_told 37 = .ok (.iadd, 1) := by decide +kernel
theorem dX6_told_38 : decode cX6_told 38 = .ok (.iaload, 1) := by decide +kernel
theorem dX6_told_39 : decode cX6_told 39 = .ok (.goto 24, 3) := by decide +kernel
theorem dX6_told_42 : decode cX6_told 42 = .ok (.iload_n 2, 1) := by decide +kernel
theorem dX6_told_43 : decode cX6_told 43 = .ok (.iconst 1, 1) := by decide +kernel
theorem dX6_told_44 : decode cX6_told 44 = .ok (.if_icmp .ne 15, 3) := by decide +kernel
theorem dX6_told_47 : decode cX6_told 47 = .ok (.aload_n 0, 1) := by decide +kernel
theorem dX6_told_48 : decode cX6_told 48 = .ok (.getfield 7, 3) := by decide +kernel
theorem dX6_told_51 : decode cX6_told 51 = .ok (.bipush 9, 2) := by decide +kernel
theorem dX6_told_53 : decode cX6_told 53 = .ok (.iload_n 1, 1) := by decide +kernel
theorem dX6_told_54 : decode cX6_told 54 = .ok (.iadd, 1) := by decide +kernel
theorem dX6_told_55 : decode cX6_told 55 = .ok (.iaload, 1) := by decide +kernel
theorem dX6_told_56 : decode cX6_told 56 = .ok (.goto 7, 3) := by decide +kernel
theorem dX6_told_59 : decode cX6_told 59 = .ok (.aload_n 0, 1) := by decide +kernel
theorem dX6_told_60 : decode cX6_told 60 = .ok (.getfield 87, 3) := by decide +kernel
theorem dX6_told_63 : decode cX6_told 63 = .ok (.ireturn, 1) := by decide +kernel
set_option maxRecDepth 20000 in
theorem ggX6_freed_X6_isWord : GoodIn wsX6_freed wsX6_isWord := goodIn_r _ [5, 6, 7, 8, 4, 9] (by decide +kernel) (by decide +kernel)
set_option maxRecDepth 20000 in
theorem gX6_freed_X6_isWord : GoodIn wsX6_freed (va_wsS RX6 46 yX6_isWord wsX6_isWord) := goodIn_app (goodIn_of _ (by decide +kernel)) ggX6_freed_X6_isWord
set_option maxRecDepth 20000 in
theorem ggX6_freed_X6_in : GoodIn wsX6_freed wsX6_in := goodIn_r _ [9] (by decide +kernel) (by decide +kernel)
set_option maxRecDepth 20000 in
theorem gX6_freed_X6_in : GoodIn wsX6_freed (va_wsS RX6 35 yX6_in wsX6_in) := goodIn_app (goodIn_of _ (by decide +kernel)) ggX6_freed_X6_in
set_option maxRecDepth 20000 in
theorem ggX6_freed_X6_go : GoodIn wsX6_freed wsX6_go := goodIn_r _ [12, 13, 14, 4, 15] (by decide +kernel) (by decide +kernel)
set_option maxRecDepth 20000 in
theorem gX6_freed_X6_go : GoodIn wsX6_freed (va_wsS RX6 71 yX6_go wsX6_go) := goodIn_app (goodIn_of _ (by decide +kernel)) ggX6_freed_X6_go
set_option maxRecDepth 20000 in
theorem ggX6_freed_X6_restOf : GoodIn wsX6_freed wsX6_restOf := goodIn_r _ [18] (by decide +kernel) (by decide +kernel)
set_option maxRecDepth 20000 in
theorem gX6_freed_X6_restOf : GoodIn wsX6_freed (va_wsS RX6 30 yX6_restOf wsX6_restOf) := goodIn_app (goodIn_of _ (by decide +kernel)) ggX6_freed_X6_restOf
set_option maxRecDepth 20000 in
theorem ggX6_freed_X6_weight : GoodIn wsX6_freed wsX6_weight := goodIn_r _ [21] (by decide +kernel) (by decide +kernel)
set_option maxRecDepth 20000 in
theorem gX6_freed_X6_weight : GoodIn wsX6_freed (va_wsS RX6 49 yX6_weight wsX6_weight) := goodIn_app (goodIn_of _ (by decide +kernel)) ggX6_freed_X6_weight
set_option maxRecDepth 20000 in
theorem ggX6_freed_X6_goBack : GoodIn wsX6_freed wsX6_goBack := goodIn_r _ [24, 13, 14, 4, 15] (by decide +kernel) (by decide +kernel)
set_option maxRecDepth 20000 in
theorem gX6_freed_X6_goBack : GoodIn wsX6_freed (va_wsS RX6 100 yX6_goBack wsX6_goBack) := goodIn_app (goodIn_of _ (by decide +kernel)) ggX6_freed_X6_goBack
theorem dX6_freed_0 : decode cX6_freed 0 = .ok (.iload_n 1, 1) := by decide +kernel
theorem dX6_freed_1 : decode cX6_freed 1 = .ok (.invokestatic 46, 3) := by decide +kernel
theorem dX6_freed_4 : decode cX6_freed 4 = .ok (.ifCond .eq 12, 3) := by decide +kernel
theorem dX6_freed_7 : decode cX6_freed 7 = .ok (.iload_n 2, 1) := by decide +kernel
theorem dX6_freed_8 : decode cX6_freed 8 = .ok (.iconst 0, 1) := by decide +kernel
theorem dX6_freed_9 : decode cX6_freed 9 = .ok (.iconst 1, 1) := by decide +kernel
theorem dX6_freed_10 : decode cX6_freed 10 = .ok (.invokestatic 35, 3) := by decide +kernel
theorem dX6_freed_13 : decode cX6_freed 13 = .ok (.ifCond .ne 6, 3) := by decide +kernel
theorem dX6_freed_16 : decode cX6_freed 16 = .ok (.bipush (-2), 2) := by decide +kernel
theorem dX6_freed_18 : decode cX6_freed 18 = .ok (.ireturn, 1) := by decide +kernel
theorem dX6_freed_19 : decode cX6_freed 19 = .ok (.iconst 0, 1) := by decide +kernel
theorem dX6_freed_20 : decode cX6_freed 20 = .ok (.istore_n 3, 1) := by decide +kernel
theorem dX6_freed_21 : decode cX6_freed 21 = .ok (.iload_n 3, 1) := by decide +kernel
theorem dX6_freed_22 : decode cX6_freed 22 = .ok (.aload_n 0, 1) := by decide +kernel
theorem dX6_freed_23 : decode cX6_freed 23 = .ok (.getfield 7, 3) := by decide +kernel
theorem dX6_freed_26 : decode cX6_freed 26 = .ok (.iconst 0, 1) := by decide +kernel
theorem dX6_freed_27 : decode cX6_freed 27 = .ok (.iaload, 1) := by decide +kernel
theorem dX6_freed_28 : decode cX6_freed 28 = .ok (.if_icmp .ge 75, 3) := by decide +kernel
theorem dX6_freed_31 : decode cX6_freed 31 = .ok (.iload_n 1, 1) := by decide +kernel
theorem dX6_freed_32 : decode cX6_freed 32 = .ok (.aload_n 0, 1) := by decide +kernel
theorem dX6_freed_33 : decode cX6_freed 33 = .ok (.getfield 7, 3) := by decide +kernel
theorem dX6_freed_36 : decode cX6_freed 36 = .ok (.iconst 1, 1) := by decide +kernel
theorem dX6_freed_37 : decode cX6_freed 37 = .ok (.iload_n 3, 1) := by decide +kernel
theorem dX6_freed_38 : decode cX6_freed 38 = .ok (.iadd, 1) := by decide +kernel
theorem dX6_freed_39 : decode cX6_freed 39 = .ok (.iaload, 1) := by decide +kernel
theorem dX6_freed_40 : decode cX6_freed 40 = .ok (.aload_n 0, 1) := by decide +kernel
theorem dX6_freed_41 : decode cX6_freed 41 = .ok (.getfield 7, 3) := by decide +kernel
theorem dX6_freed_44 : decode cX6_freed 44 = .ok (.bipush 9, 2) := by decide +kernel
theorem dX6_freed_46 : decode cX6_freed 46 = .ok (.iload_n 3, 1) := by decide +kernel
theorem dX6_freed_47 : decode cX6_freed 47 = .ok (.iadd, 1) := by decide +kernel
theorem dX6_freed_48 : decode cX6_freed 48 = .ok (.iaload, 1) := by decide +kernel
theorem dX6_freed_49 : decode cX6_freed 49 = .ok (.invokestatic 71, 3) := by decide +kernel
theorem dX6_freed_52 : decode cX6_freed 52 = .ok (.invokestatic 30, 3) := by decide +kernel
theorem dX6_freed_55 : decode cX6_freed 55 = .ok (.istore 4, 2) := by decide +kernel
theorem dX6_freed_57 : decode cX6_freed 57 = .ok (.iload 4, 2) := by decide +kernel
theorem dX6_freed_59 : decode cX6_freed 59 = .ok (.invokestatic 49, 3) := by decide +kernel
theorem dX6_freed_62 : decode cX6_freed 62 = .ok (.iconst 3, 1) := by decide +kernel
theorem dX6_freed_63 : decode cX6_freed 63 = .ok (.if_icmp .gt 34, 3) := by decide +kernel
theorem dX6_freed_66 : decode cX6_freed 66 = .ok (.iload_n 2, 1) := by decide +kernel
theorem dX6_freed_67 : decode cX6_freed 67 = .ok (.ifCond .ne 7, 3) := by decide +kernel
theorem dX6_freed_70 : decode cX6_freed 70 = .ok (.iload_n 3, 1) := by decide +kernel
theorem dX6_freed_71 : decode cX6_freed 71 = .ok (.goto 25, 3) := by decide +kernel
theorem dX6_freed_74 : decode cX6_freed 74 = .ok (.iload 4, 2) := by decide +kernel
theorem dX6_freed_76 : decode cX6_freed 76 = .ok (.aload_n 0, 1) := by decide +kernel
theorem dX6_freed_77 : decode cX6_freed 77 = .ok (.getfield 7, 3) := by decide +kernel
theorem dX6_freed_80 : decode cX6_freed 80 = .ok (.iconst 1, 1) := by decide +kernel
theorem dX6_freed_81 : decode cX6_freed 81 = .ok (.iload_n 3, 1) := by decide +kernel
theorem dX6_freed_82 : decode cX6_freed 82 = .ok (.iadd, 1) := by decide +kernel
theorem dX6_freed_83 : decode cX6_freed 83 = .ok (.iaload, 1) := by decide +kernel
theorem dX6_freed_84 : decode cX6_freed 84 = .ok (.aload_n 0, 1) := by decide +kernel
theorem dX6_freed_85 : decode cX6_freed 85 = .ok (.getfield 7, 3) := by decide +kernel
theorem dX6_freed_88 : decode cX6_freed 88 = .ok (.bipush 9, 2) := by decide +kernel
theorem dX6_freed_90 : decode cX6_freed 90 = .ok (.iload_n 3, 1) := by decide +kernel
theorem dX6_freed_91 : decode cX6_freed 91 = .ok (.iadd, 1) := by decide +kernel
theorem dX6_freed_92 : decode cX6_freed 92 = .ok (.iaload, 1) := by decide +kernel
theorem dX6_freed_93 : decode cX6_freed 93 = .ok (.invokestatic 100, 3) := by decide +kernel
theorem dX6_freed_96 : decode cX6_freed 96 = .ok (.ireturn, 1) := by decide +kernel
theorem dX6_freed_97 : decode cX6_freed 97 = .ok (.iinc 3 1, 3) := by decide +kernel
theorem dX6_freed_100 : decode cX6_freed 100 = .ok (.goto (-79), 3) := by decide +kernel
theorem dX6_freed_103 : decode cX6_freed 103 = .ok (.bipush (-6), 2) := by decide +kernel
theorem dX6_freed_105 : decode cX6_freed 105 = .ok (.ireturn, 1) := by decide +kernel
set_option maxRecDepth 20000 in
theorem ggX6_open_X6_in : GoodIn wsX6_open wsX6_in := goodIn_r _ [7] (by decide +kernel) (by decide +kernel)
set_option maxRecDepth 20000 in
theorem gX6_open_X6_in : GoodIn wsX6_open (va_wsS RX6 35 yX6_in wsX6_in) := goodIn_app (goodIn_of _ (by decide +kernel)) ggX6_open_X6_in
set_option maxRecDepth 20000 in
theorem ggX6_open_X6_layTriples : GoodIn wsX6_open wsX6_layTriples := goodIn_r _ [11, 2, 3, 12, 13, 14, 6, 15, 1, 16, 17, 18, 19, 20, 21, 22, 23, 24, 25, 26, 27, 28, 29] (by decide +kernel) (by decide +kernel)
set_option maxRecDepth 20000 in
theorem gX6_open_X6_layTriples : GoodIn wsX6_open (wsV RX6 97 RX6 yX6_layTriples wsX6_layTriples) := goodIn_app (goodIn_of _ (by decide +kernel)) ggX6_open_X6_layTriples
theorem dX6_open_0 : decode cX6_open 0 = .ok (.iload_n 1, 1) := by decide +kernel
theorem dX6_open_1 : decode cX6_open 1 = .ok (.iconst 0, 1) := by decide +kernel
theorem dX6_open_2 : decode cX6_open 2 = .ok (.iconst 1, 1) := by decide +kernel
theorem dX6_open_3 : decode cX6_open 3 = .ok (.invokestatic 35, 3) := by decide +kernel
theorem dX6_open_6 : decode cX6_open 6 = .ok (.ifCond .ne 6, 3) := by decide +kernel
theorem dX6_open_9 : decode cX6_open 9 = .ok (.bipush (-2), 2) := by decide +kernel
theorem dX6_open_11 : decode cX6_open 11 = .ok (.ireturn, 1) := by decide +kernel
theorem dX6_open_12 : decode cX6_open 12 = .ok (.aload_n 0, 1) := by decide +kernel
theorem dX6_open_13 : decode cX6_open 13 = .ok (.aload_n 0, 1) := by decide +kernel
theorem dX6_open_14 : decode cX6_open 14 = .ok (.getfield 7, 3) := by decide +kernel
theorem dX6_open_17 : decode cX6_open 17 = .ok (.iconst 0, 1) := by decide +kernel
theorem dX6_open_18 : decode cX6_open 18 = .ok (.iaload, 1) := by decide +kernel
theorem dX6_open_19 : decode cX6_open 19 = .ok (.invokevirtual 97, 3) := by decide +kernel
theorem dX6_open_22 : decode cX6_open 22 = .ok (.iload_n 1, 1) := by decide +kernel
theorem dX6_open_23 : decode cX6_open 23 = .ok (.ifCond .ne 10, 3) := by decide +kernel
theorem dX6_open_26 : decode cX6_open 26 = .ok (.aload_n 0, 1) := by decide +kernel
theorem dX6_open_27 : decode cX6_open 27 = .ok (.getfield 87, 3) := by decide +kernel
theorem dX6_open_30 : decode cX6_open 30 = .ok (.goto 7, 3) := by decide +kernel
theorem dX6_open_33 : decode cX6_open 33 = .ok (.aload_n 0, 1) := by decide +kernel
theorem dX6_open_34 : decode cX6_open 34 = .ok (.getfield 91, 3) := by decide +kernel
theorem dX6_open_37 : decode cX6_open 37 = .ok (.ireturn, 1) := by decide +kernel
set_option maxRecDepth 20000 in
theorem ggX6_isPlace_X6_in : GoodIn wsX6_isPlace wsX6_in := goodIn_r _ [4] (by decide +kernel) (by decide +kernel)
set_option maxRecDepth 20000 in
theorem gX6_isPlace_X6_in : GoodIn wsX6_isPlace (va_wsS RX6 35 yX6_in wsX6_in) := goodIn_app (goodIn_of _ (by decide +kernel)) ggX6_isPlace_X6_in
theorem dX6_isPlace_0 : decode cX6_isPlace 0 = .ok (.iload_n 0, 1) := by decide +kernel
theorem dX6_isPlace_1 : decode cX6_isPlace 1 = .ok (.iconst 0, 1) := by decide +kernel
