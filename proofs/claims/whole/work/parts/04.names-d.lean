theorem dX3_copyFrom_28 : decode cX3_copyFrom 28 = .ok (.aload_n 0, 1) := by decide +kernel
theorem dX3_copyFrom_29 : decode cX3_copyFrom 29 = .ok (.getfield 19, 3) := by decide +kernel
theorem dX3_copyFrom_32 : decode cX3_copyFrom 32 = .ok (.iload_n 2, 1) := by decide +kernel
theorem dX3_copyFrom_33 : decode cX3_copyFrom 33 = .ok (.aload_n 1, 1) := by decide +kernel
theorem dX3_copyFrom_34 : decode cX3_copyFrom 34 = .ok (.getfield 19, 3) := by decide +kernel
theorem dX3_copyFrom_37 : decode cX3_copyFrom 37 = .ok (.iload_n 2, 1) := by decide +kernel
theorem dX3_copyFrom_38 : decode cX3_copyFrom 38 = .ok (.iaload, 1) := by decide +kernel
theorem dX3_copyFrom_39 : decode cX3_copyFrom 39 = .ok (.iastore, 1) := by decide +kernel
theorem dX3_copyFrom_40 : decode cX3_copyFrom 40 = .ok (.aload_n 0, 1) := by decide +kernel
theorem dX3_copyFrom_41 : decode cX3_copyFrom 41 = .ok (.getfield 22, 3) := by decide +kernel
theorem dX3_copyFrom_44 : decode cX3_copyFrom 44 = .ok (.iload_n 2, 1) := by decide +kernel
theorem dX3_copyFrom_45 : decode cX3_copyFrom 45 = .ok (.aload_n 1, 1) := by decide +kernel
theorem dX3_copyFrom_46 : decode cX3_copyFrom 46 = .ok (.getfield 22, 3) := by decide +kernel
theorem dX3_copyFrom_49 : decode cX3_copyFrom 49 = .ok (.iload_n 2, 1) := by decide +kernel
theorem dX3_copyFrom_50 : decode cX3_copyFrom 50 = .ok (.iaload, 1) := by decide +kernel
theorem dX3_copyFrom_51 : decode cX3_copyFrom 51 = .ok (.iastore, 1) := by decide +kernel
theorem dX3_copyFrom_52 : decode cX3_copyFrom 52 = .ok (.iinc 2 1, 3) := by decide +kernel
theorem dX3_copyFrom_55 : decode cX3_copyFrom 55 = .ok (.goto (-45), 3) := by decide +kernel
theorem dX3_copyFrom_58 : decode cX3_copyFrom 58 = .ok (.return_, 1) := by decide +kernel
set_option maxRecDepth 20000 in
theorem ggX3_append_X0_carryBack : GoodIn wsX3_append wsX0_carryBack := goodIn_r _ [7, 8, 9, 6, 10] (by decide +kernel) (by decide +kernel)
set_option maxRecDepth 20000 in
theorem gX3_append_X0_carryBack_n25 : GoodIn wsX3_append (wsX0_carryBack) := ggX3_append_X0_carryBack
theorem dX3_append_0 : decode cX3_append 0 = .ok (.aload_n 0, 1) := by decide +kernel
theorem dX3_append_1 : decode cX3_append 1 = .ok (.getfield 9, 3) := by decide +kernel
theorem dX3_append_4 : decode cX3_append 4 = .ok (.bipush 8, 2) := by decide +kernel
theorem dX3_append_6 : decode cX3_append 6 = .ok (.if_icmp .lt 4, 3) := by decide +kernel
theorem dX3_append_9 : decode cX3_append 9 = .ok (.return_, 1) := by decide +kernel
theorem dX3_append_10 : decode cX3_append 10 = .ok (.aload_n 0, 1) := by decide +kernel
theorem dX3_append_11 : decode cX3_append 11 = .ok (.getfield 15, 3) := by decide +kernel
theorem dX3_append_14 : decode cX3_append 14 = .ok (.aload_n 0, 1) := by decide +kernel
theorem dX3_append_15 : decode cX3_append 15 = .ok (.getfield 9, 3) := by decide +kernel
theorem dX3_append_18 : decode cX3_append 18 = .ok (.iload_n 1, 1) := by decide +kernel
theorem dX3_append_19 : decode cX3_append 19 = .ok (.iastore, 1) := by decide +kernel
theorem dX3_append_20 : decode cX3_append 20 = .ok (.aload_n 0, 1) := by decide +kernel
theorem dX3_append_21 : decode cX3_append 21 = .ok (.getfield 19, 3) := by decide +kernel
theorem dX3_append_24 : decode cX3_append 24 = .ok (.aload_n 0, 1) := by decide +kernel
theorem dX3_append_25 : decode cX3_append 25 = .ok (.getfield 9, 3) := by decide +kernel
theorem dX3_append_28 : decode cX3_append 28 = .ok (.iload_n 2, 1) := by decide +kernel
theorem dX3_append_29 : decode cX3_append 29 = .ok (.iastore, 1) := by decide +kernel
theorem dX3_append_30 : decode cX3_append 30 = .ok (.aload_n 0, 1) := by decide +kernel
theorem dX3_append_31 : decode cX3_append 31 = .ok (.getfield 22, 3) := by decide +kernel
theorem dX3_append_34 : decode cX3_append 34 = .ok (.aload_n 0, 1) := by decide +kernel
theorem dX3_append_35 : decode cX3_append 35 = .ok (.getfield 9, 3) := by decide +kernel
theorem dX3_append_38 : decode cX3_append 38 = .ok (.sipush 2047, 3) := by decide +kernel
theorem dX3_append_41 : decode cX3_append 41 = .ok (.iload_n 1, 1) := by decide +kernel
theorem dX3_append_42 : decode cX3_append 42 = .ok (.iload_n 2, 1) := by decide +kernel
theorem dX3_append_43 : decode cX3_append 43 = .ok (.invokestatic 25, 3) := by decide +kernel
theorem dX3_append_46 : decode cX3_append 46 = .ok (.iastore, 1) := by decide +kernel
theorem dX3_append_47 : decode cX3_append 47 = .ok (.aload_n 0, 1) := by decide +kernel
theorem dX3_append_48 : decode cX3_append 48 = .ok (.dup, 1) := by decide +kernel
theorem dX3_append_49 : decode cX3_append 49 = .ok (.getfield 9, 3) := by decide +kernel
theorem dX3_append_52 : decode cX3_append 52 = .ok (.iconst 1, 1) := by decide +kernel
theorem dX3_append_53 : decode cX3_append 53 = .ok (.iadd, 1) := by decide +kernel
theorem dX3_append_54 : decode cX3_append 54 = .ok (.putfield 9, 3) := by decide +kernel
theorem dX3_append_57 : decode cX3_append 57 = .ok (.return_, 1) := by decide +kernel
set_option maxRecDepth 20000 in
theorem ggX3_removeAt_X5_isBelow : GoodIn wsX3_removeAt wsX5_isBelow := goodIn_r _ [7] (by decide +kernel) (by decide +kernel)
set_option maxRecDepth 20000 in
theorem gX3_removeAt_X5_isBelow_n31 : GoodIn wsX3_removeAt (wsX5_isBelow) := ggX3_removeAt_X5_isBelow
theorem dX3_removeAt_0 : decode cX3_removeAt 0 = .ok (.iload_n 1, 1) := by decide +kernel
theorem dX3_removeAt_1 : decode cX3_removeAt 1 = .ok (.aload_n 0, 1) := by decide +kernel
theorem dX3_removeAt_2 : decode cX3_removeAt 2 = .ok (.getfield 9, 3) := by decide +kernel
theorem dX3_removeAt_5 : decode cX3_removeAt 5 = .ok (.invokestatic 31, 3) := by decide +kernel
theorem dX3_removeAt_8 : decode cX3_removeAt 8 = .ok (.ifCond .ne 4, 3) := by decide +kernel
theorem dX3_removeAt_11 : decode cX3_removeAt 11 = .ok (.return_, 1) := by decide +kernel
theorem dX3_removeAt_12 : decode cX3_removeAt 12 = .ok (.iload_n 1, 1) := by decide +kernel
theorem dX3_removeAt_13 : decode cX3_removeAt 13 = .ok (.istore_n 2, 1) := by decide +kernel
theorem dX3_removeAt_14 : decode cX3_removeAt 14 = .ok (.iload_n 2, 1) := by decide +kernel
theorem dX3_removeAt_15 : decode cX3_removeAt 15 = .ok (.iconst 1, 1) := by decide +kernel
theorem dX3_removeAt_16 : decode cX3_removeAt 16 = .ok (.iadd, 1) := by decide +kernel
theorem dX3_removeAt_17 : decode cX3_removeAt 17 = .ok (.aload_n 0, 1) := by decide +kernel
theorem dX3_removeAt_18 : decode cX3_removeAt 18 = .ok (.getfield 9, 3) := by decide +kernel
theorem dX3_removeAt_21 : decode cX3_removeAt 21 = .ok (.if_icmp .ge 51, 3) := by decide +kernel
theorem dX3_removeAt_24 : decode cX3_removeAt 24 = .ok (.aload_n 0, 1) := by decide +kernel
theorem dX3_removeAt_25 : decode cX3_removeAt 25 = .ok (.getfield 15, 3) := by decide +kernel
theorem dX3_removeAt_28 : decode cX3_removeAt 28 = .ok (.iload_n 2, 1) := by decide +kernel
theorem dX3_removeAt_29 : decode cX3_removeAt 29 = .ok (.aload_n 0, 1) := by decide +kernel
theorem dX3_removeAt_30 : decode cX3_removeAt 30 = .ok (.getfield 15, 3) := by decide +kernel
theorem dX3_removeAt_33 : decode cX3_removeAt 33 = .ok (.iload_n 2, 1) := by decide +kernel
theorem dX3_removeAt_34 : decode cX3_removeAt 34 = .ok (.iconst 1, 1) := by decide +kernel
theorem dX3_removeAt_35 : decode cX3_removeAt 35 = .ok (.iadd, 1) := by decide +kernel
theorem dX3_removeAt_36 : decode cX3_removeAt 36 = .ok (.iaload, 1) := by decide +kernel
theorem dX3_removeAt_37 : decode cX3_removeAt 37 = .ok (.iastore, 1) := by decide +kernel
theorem dX3_removeAt_38 : decode cX3_removeAt 38 = .ok (.aload_n 0, 1) := by decide +kernel
theorem dX3_removeAt_39 : decode cX3_removeAt 39 = .ok (.getfield 19, 3) := by decide +kernel
theorem dX3_removeAt_42 : decode cX3_removeAt 42 = .ok (.iload_n 2, 1) := by decide +kernel
theorem dX3_removeAt_43 : decode cX3_removeAt 43 = .ok (.aload_n 0, 1) := by decide +kernel
theorem dX3_removeAt_44 : decode cX3_removeAt 44 = .ok (.getfield 19, 3) := by decide +kernel
theorem dX3_removeAt_47 : decode cX3_removeAt 47 = .ok (.iload_n 2, 1) := by decide +kernel
theorem dX3_removeAt_48 : decode cX3_removeAt 48 = .ok (.iconst 1, 1) := by decide +kernel
theorem dX3_removeAt_49 : decode cX3_removeAt 49 = .ok (.iadd, 1) := by decide +kernel
theorem dX3_removeAt_50 : decode cX3_removeAt 50 = .ok (.iaload, 1) := by decide +kernel
theorem dX3_removeAt_51 : decode cX3_removeAt 51 = .ok (.iastore, 1) := by decide +kernel
theorem dX3_removeAt_52 : decode cX3_removeAt 52 = .ok (.aload_n 0, 1) := by decide +kernel
theorem dX3_removeAt_53 : decode cX3_removeAt 53 = .ok (.getfield 22, 3) := by decide +kernel
theorem dX3_removeAt_56 : decode cX3_removeAt 56 = .ok (.iload_n 2, 1) := by decide +kernel
theorem dX3_removeAt_57 : decode cX3_removeAt 57 = .ok (.aload_n 0, 1) := by decide +kernel
theorem dX3_removeAt_58 : decode cX3_removeAt 58 = .ok (.getfield 22, 3) := by decide +kernel
theorem dX3_removeAt_61 : decode cX3_removeAt 61 = .ok (.iload_n 2, 1) := by decide +kernel
theorem dX3_removeAt_62 : decode cX3_removeAt 62 = .ok (.iconst 1, 1) := by decide +kernel
theorem dX3_removeAt_63 : decode cX3_removeAt 63 = .ok (.iadd, 1) := by decide +kernel
theorem dX3_removeAt_64 : decode cX3_removeAt 64 = .ok (.iaload, 1) := by decide +kernel
theorem dX3_removeAt_65 : decode cX3_removeAt 65 = .ok (.iastore, 1) := by decide +kernel
theorem dX3_removeAt_66 : decode cX3_removeAt 66 = .ok (.iinc 2 1, 3) := by decide +kernel
theorem dX3_removeAt_69 : decode cX3_removeAt 69 = .ok (.goto (-55), 3) := by decide +kernel
theorem dX3_removeAt_72 : decode cX3_removeAt 72 = .ok (.aload_n 0, 1) := by decide +kernel
theorem dX3_removeAt_73 : decode cX3_removeAt 73 = .ok (.dup, 1) := by decide +kernel
theorem dX3_removeAt_74 : decode cX3_removeAt 74 = .ok (.getfield 9, 3) := by decide +kernel
theorem dX3_removeAt_77 : decode cX3_removeAt 77 = .ok (.iconst 1, 1) := by decide +kernel
theorem dX3_removeAt_78 : decode cX3_removeAt 78 = .ok (.isub, 1) := by decide +kernel
theorem dX3_removeAt_79 : decode cX3_removeAt 79 = .ok (.putfield 9, 3) := by decide +kernel
theorem dX3_removeAt_82 : decode cX3_removeAt 82 = .ok (.return_, 1) := by decide +kernel
theorem dX3_joined_0 : decode cX3_joined 0 = .ok (.iconst 1, 1) := by decide +kernel
theorem dX3_joined_1 : decode cX3_joined 1 = .ok (.iload_n 1, 1) := by decide +kernel
theorem dX3_joined_2 : decode cX3_joined 2 = .ok (.ishl, 1) := by decide +kernel
theorem dX3_joined_3 : decode cX3_joined 3 = .ok (.iconst 1, 1) := by decide +kernel
theorem dX3_joined_4 : decode cX3_joined 4 = .ok (.iload_n 2, 1) := by decide +kernel
theorem dX3_joined_5 : decode cX3_joined 5 = .ok (.ishl, 1) := by decide +kernel
theorem dX3_joined_6 : decode cX3_joined 6 = .ok (.ior, 1) := by decide +kernel
theorem dX3_joined_7 : decode cX3_joined 7 = .ok (.istore 4, 2) := by decide +kernel
theorem dX3_joined_9 : decode cX3_joined 9 = .ok (.iconst 0, 1) := by decide +kernel
theorem dX3_joined_10 : decode cX3_joined 10 = .ok (.istore 5, 2) := by decide +kernel
theorem dX3_joined_12 : decode cX3_joined 12 = .ok (.iconst 0, 1) := by decide +kernel
theorem dX3_joined_13 : decode cX3_joined 13 = .ok (.istore 6, 2) := by decide +kernel
theorem dX3_joined_15 : decode cX3_joined 15 = .ok (.iload 6, 2) := by decide +kernel
theorem dX3_joined_17 : decode cX3_joined 17 = .ok (.iload_n 3, 1) := by decide +kernel
theorem dX3_joined_18 : decode cX3_joined 18 = .ok (.if_icmp .ge 45, 3) := by decide +kernel
theorem dX3_joined_21 : decode cX3_joined 21 = .ok (.iload 6, 2) := by decide +kernel
theorem dX3_joined_23 : decode cX3_joined 23 = .ok (.aload_n 0, 1) := by decide +kernel
theorem dX3_joined_24 : decode cX3_joined 24 = .ok (.getfield 9, 3) := by decide +kernel
theorem dX3_joined_27 : decode cX3_joined 27 = .ok (.if_icmp .ge 36, 3) := by decide +kernel
theorem dX3_joined_30 : decode cX3_joined 30 = .ok (.aload_n 0, 1) := by decide +kernel
theorem dX3_joined_31 : decode cX3_joined 31 = .ok (.getfield 22, 3) := by decide +kernel
theorem dX3_joined_34 : decode cX3_joined 34 = .ok (.iload 6, 2) := by decide +kernel
theorem dX3_joined_36 : decode cX3_joined 36 = .ok (.iaload, 1) := by decide +kernel
theorem dX3_joined_37 : decode cX3_joined 37 = .ok (.iload 4, 2) := by decide +kernel
theorem dX3_joined_39 : decode cX3_joined 39 = .ok (.iand, 1) := by decide +kernel
theorem dX3_joined_40 : decode cX3_joined 40 = .ok (.iload 4, 2) := by decide +kernel
theorem dX3_joined_42 : decode cX3_joined 42 = .ok (.if_icmp .ne 15, 3) := by decide +kernel
theorem dX3_joined_45 : decode cX3_joined 45 = .ok (.iload 5, 2) := by decide +kernel
theorem dX3_joined_47 : decode cX3_joined 47 = .ok (.aload_n 0, 1) := by decide +kernel
theorem dX3_joined_48 : decode cX3_joined 48 = .ok (.getfield 22, 3) := by decide +kernel
theorem dX3_joined_51 : decode cX3_joined 51 = .ok (.iload 6, 2) := by decide +kernel
theorem dX3_joined_53 : decode cX3_joined 53 = .ok (.iaload, 1) := by decide +kernel
theorem dX3_joined_54 : decode cX3_joined 54 = .ok (.ior, 1) := by decide +kernel
theorem dX3_joined_55 : decode cX3_joined 55 = .ok (.istore 5, 2) := by decide +kernel
theorem dX3_joined_57 : decode cX3_joined 57 = .ok (.iinc 6 1, 3) := by decide +kernel
theorem dX3_joined_60 : decode cX3_joined 60 = .ok (.goto (-45), 3) := by decide +kernel
theorem dX3_joined_63 : decode cX3_joined 63 = .ok (.iload 5, 2) := by decide +kernel
theorem dX3_joined_65 : decode cX3_joined 65 = .ok (.ireturn, 1) := by decide +kernel
set_option maxRecDepth 20000 in
theorem ggX3_coveredByFirst_X3_joined : GoodIn wsX3_coveredByFirst wsX3_joined := goodIn_r _ [5, 6, 7, 15, 16, 17, 18] (by decide +kernel) (by decide +kernel)
set_option maxRecDepth 20000 in
theorem gX3_coveredByFirst_X3_joined : GoodIn wsX3_coveredByFirst (wsV RX3 35 RX3 yX3_joined wsX3_joined) := goodIn_app (goodIn_of _ (by decide +kernel)) ggX3_coveredByFirst_X3_joined
set_option maxRecDepth 20000 in
theorem ggX3_coveredByFirst_J6_bitCount_0f7a4 : GoodIn wsX3_coveredByFirst wsJ6_bitCount_0f7a4 := goodIn_r _ [11, 12, 13, 14] (by decide +kernel) (by decide +kernel)
set_option maxRecDepth 20000 in
theorem gX3_coveredByFirst_J6_bitCount_0f7a4 : GoodIn wsX3_coveredByFirst (va_wsS RX3 38 yJ6_bitCount_0f7a4 wsJ6_bitCount_0f7a4) := goodIn_app (goodIn_of _ (by decide +kernel)) ggX3_coveredByFirst_J6_bitCount_0f7a4
theorem dX3_coveredByFirst_0 : decode cX3_coveredByFirst 0 = .ok (.iconst 0, 1) := by decide +kernel
theorem dX3_coveredByFirst_1 : decode cX3_coveredByFirst 1 = .ok (.istore_n 2, 1) := by decide +kernel
theorem dX3_coveredByFirst_2 : decode cX3_coveredByFirst 2 = .ok (.iconst 0, 1) := by decide +kernel
theorem dX3_coveredByFirst_3 : decode cX3_coveredByFirst 3 = .ok (.istore_n 3, 1) := by decide +kernel
theorem dX3_coveredByFirst_4 : decode cX3_coveredByFirst 4 = .ok (.iload_n 3, 1) := by decide +kernel
theorem dX3_coveredByFirst_5 : decode cX3_coveredByFirst 5 = .ok (.bipush 23, 2) := by decide +kernel
theorem dX3_coveredByFirst_7 : decode cX3_coveredByFirst 7 = .ok (.if_icmp .ge 46, 3) := by decide +kernel
theorem dX3_coveredByFirst_10 : decode cX3_coveredByFirst 10 = .ok (.iload_n 3, 1) := by decide +kernel
theorem dX3_coveredByFirst_11 : decode cX3_coveredByFirst 11 = .ok (.iconst 1, 1) := by decide +kernel
theorem dX3_coveredByFirst_12 : decode cX3_coveredByFirst 12 = .ok (.iadd, 1) := by decide +kernel
theorem dX3_coveredByFirst_13 : decode cX3_coveredByFirst 13 = .ok (.istore 4, 2) := by decide +kernel
theorem dX3_coveredByFirst_15 : decode cX3_coveredByFirst 15 = .ok (.iload 4, 2) := by decide +kernel
theorem dX3_coveredByFirst_17 : decode cX3_coveredByFirst 17 = .ok (.bipush 23, 2) := by decide +kernel
theorem dX3_coveredByFirst_19 : decode cX3_coveredByFirst 19 = .ok (.if_icmp .ge 28, 3) := by decide +kernel
theorem dX3_coveredByFirst_22 : decode cX3_coveredByFirst 22 = .ok (.iload_n 2, 1) := by decide +kernel
theorem dX3_coveredByFirst_23 : decode cX3_coveredByFirst 23 = .ok (.aload_n 0, 1) := by decide +kernel
theorem dX3_coveredByFirst_24 : decode cX3_coveredByFirst 24 = .ok (.iload_n 3, 1) := by decide +kernel
theorem dX3_coveredByFirst_25 : decode cX3_coveredByFirst 25 = .ok (.iload 4, 2) := by decide +kernel
theorem dX3_coveredByFirst_27 : decode cX3_coveredByFirst 27 = .ok (.iload_n 1, 1) := by decide +kernel
theorem dX3_coveredByFirst_28 : decode cX3_coveredByFirst 28 = .ok (.invokevirtual 35, 3) := by decide +kernel
theorem dX3_coveredByFirst_31 : decode cX3_coveredByFirst 31 = .ok (.iload 4, 2) := by decide +kernel
theorem dX3_coveredByFirst_33 : decode cX3_coveredByFirst 33 = .ok (.iconst 1, 1) := by decide +kernel
theorem dX3_coveredByFirst_34 : decode cX3_coveredByFirst 34 = .ok (.iadd, 1) := by decide +kernel
theorem dX3_coveredByFirst_35 : decode cX3_coveredByFirst 35 = .ok (.iushr, 1) := by decide +kernel
theorem dX3_coveredByFirst_36 : decode cX3_coveredByFirst 36 = .ok (.invokestatic 38, 3) := by decide +kernel
theorem dX3_coveredByFirst_39 : decode cX3_coveredByFirst 39 = .ok (.iadd, 1) := by decide +kernel
theorem dX3_coveredByFirst_40 : decode cX3_coveredByFirst 40 = .ok (.istore_n 2, 1) := by decide +kernel
theorem dX3_coveredByFirst_41 : decode cX3_coveredByFirst 41 = .ok (.iinc 4 1, 3) := by decide +kernel
theorem dX3_coveredByFirst_44 : decode cX3_coveredByFirst 44 = .ok (.goto (-29), 3) := by decide +kernel
theorem dX3_coveredByFirst_47 : decode cX3_coveredByFirst 47 = .ok (.iinc 3 1, 3) := by decide +kernel
theorem dX3_coveredByFirst_50 : decode cX3_coveredByFirst 50 = .ok (.goto (-46), 3) := by decide +kernel
theorem dX3_coveredByFirst_53 : decode cX3_coveredByFirst 53 = .ok (.iload_n 2, 1) := by decide +kernel
theorem dX3_coveredByFirst_54 : decode cX3_coveredByFirst 54 = .ok (.ireturn, 1) := by decide +kernel
set_option maxRecDepth 20000 in
theorem ggX3_firstNotCovered_X3_joined : GoodIn wsX3_firstNotCovered wsX3_joined := goodIn_r _ [6, 1, 7, 8, 9, 10, 11] (by decide +kernel) (by decide +kernel)
set_option maxRecDepth 20000 in
theorem gX3_firstNotCovered_X3_joined : GoodIn wsX3_firstNotCovered (wsV RX3 35 RX3 yX3_joined wsX3_joined) := goodIn_app (goodIn_of _ (by decide +kernel)) ggX3_firstNotCovered_X3_joined
theorem dX3_firstNotCovered_0 : decode cX3_firstNotCovered 0 = .ok (.iconst 0, 1) := by decide +kernel
theorem dX3_firstNotCovered_1 : decode cX3_firstNotCovered 1 = .ok (.istore_n 1, 1) := by decide +kernel
theorem dX3_firstNotCovered_2 : decode cX3_firstNotCovered 2 = .ok (.iload_n 1, 1) := by decide +kernel
theorem dX3_firstNotCovered_3 : decode cX3_firstNotCovered 3 = .ok (.bipush 23, 2) := by decide +kernel
theorem dX3_firstNotCovered_5 : decode cX3_firstNotCovered 5 = .ok (.if_icmp .ge 76, 3) := by decide +kernel
theorem dX3_firstNotCovered_8 : decode cX3_firstNotCovered 8 = .ok (.iload_n 1, 1) := by decide +kernel
theorem dX3_firstNotCovered_9 : decode cX3_firstNotCovered 9 = .ok (.iconst 1, 1) := by decide +kernel
theorem dX3_firstNotCovered_10 : decode cX3_firstNotCovered 10 = .ok (.iadd, 1) := by decide +kernel
theorem dX3_firstNotCovered_11 : decode cX3_firstNotCovered 11 = .ok (.istore_n 2, 1) := by decide +kernel
theorem dX3_firstNotCovered_12 : decode cX3_firstNotCovered 12 = .ok (.iload_n 2, 1) := by decide +kernel
theorem dX3_firstNotCovered_13 : decode cX3_firstNotCovered 13 = .ok (.bipush 23, 2) := by decide +kernel
theorem dX3_firstNotCovered_15 : decode cX3_firstNotCovered 15 = .ok (.if_icmp .ge 60, 3) := by decide +kernel
theorem dX3_firstNotCovered_18 : decode cX3_firstNotCovered 18 = .ok (.aload_n 0, 1) := by decide +kernel
theorem dX3_firstNotCovered_19 : decode cX3_firstNotCovered 19 = .ok (.iload_n 1, 1) := by decide +kernel
theorem dX3_firstNotCovered_20 : decode cX3_firstNotCovered 20 = .ok (.iload_n 2, 1) := by decide +kernel
theorem dX3_firstNotCovered_21 : decode cX3_firstNotCovered 21 = .ok (.aload_n 0, 1) := by decide +kernel
theorem dX3_firstNotCovered_22 : decode cX3_firstNotCovered 22 = .ok (.getfield 9, 3) := by decide +kernel
theorem dX3_firstNotCovered_25 : decode cX3_firstNotCovered 25 = .ok (.invokevirtual 35, 3) := by decide +kernel
theorem dX3_firstNotCovered_28 : decode cX3_firstNotCovered 28 = .ok (.istore_n 3, 1) := by decide +kernel
theorem dX3_firstNotCovered_29 : decode cX3_firstNotCovered 29 = .ok (.iload_n 2, 1) := by decide +kernel
theorem dX3_firstNotCovered_30 : decode cX3_firstNotCovered 30 = .ok (.iconst 1, 1) := by decide +kernel
theorem dX3_firstNotCovered_31 : decode cX3_firstNotCovered 31 = .ok (.iadd, 1) := by decide +kernel
theorem dX3_firstNotCovered_32 : decode cX3_firstNotCovered 32 = .ok (.istore 4, 2) := by decide +kernel
theorem dX3_firstNotCovered_34 : decode cX3_firstNotCovered 34 = .ok (.iload 4, 2) := by decide +kernel
theorem dX3_firstNotCovered_36 : decode cX3_firstNotCovered 36 = .ok (.bipush 23, 2) := by decide +kernel
theorem dX3_firstNotCovered_38 : decode cX3_firstNotCovered 38 = .ok (.if_icmp .ge 31, 3) := by decide +kernel
theorem dX3_firstNotCovered_41 : decode cX3_firstNotCovered 41 = .ok (.iload_n 3, 1) := by decide +kernel
theorem dX3_firstNotCovered_42 : decode cX3_firstNotCovered 42 = .ok (.iload 4, 2) := by decide +kernel
theorem dX3_firstNotCovered_44 : decode cX3_firstNotCovered 44 = .ok (.iushr, 1) := by decide +kernel
theorem dX3_firstNotCovered_45 : decode cX3_firstNotCovered 45 = .ok (.iconst 1, 1) := by decide +kernel
theorem dX3_firstNotCovered_46 : decode cX3_firstNotCovered 46 = .ok (.iand, 1) := by decide +kernel
theorem dX3_firstNotCovered_47 : decode cX3_firstNotCovered 47 = .ok (.ifCond .ne 16, 3) := by decide +kernel
theorem dX3_firstNotCovered_50 : decode cX3_firstNotCovered 50 = .ok (.iload_n 1, 1) := by decide +kernel
theorem dX3_firstNotCovered_51 : decode cX3_firstNotCovered 51 = .ok (.bipush 23, 2) := by decide +kernel
theorem dX3_firstNotCovered_53 : decode cX3_firstNotCovered 53 = .ok (.imul, 1) := by decide +kernel
theorem dX3_firstNotCovered_54 : decode cX3_firstNotCovered 54 = .ok (.iload_n 2, 1) := by decide +kernel
theorem dX3_firstNotCovered_55 : decode cX3_firstNotCovered 55 = .ok (.iadd, 1) := by decide +kernel
theorem dX3_firstNotCovered_56 : decode cX3_firstNotCovered 56 = .ok (.bipush 23, 2) := by decide +kernel
theorem dX3_firstNotCovered_58 : decode cX3_firstNotCovered 58 = .ok (.imul, 1) := by decide +kernel
theorem dX3_firstNotCovered_59 : decode cX3_firstNotCovered 59 = .ok (.iload 4, 2) := by decide +kernel
theorem dX3_firstNotCovered_61 : decode cX3_firstNotCovered 61 = .ok (.iadd, 1) := by decide +kernel
theorem dX3_firstNotCovered_62 : decode cX3_firstNotCovered 62 = .ok (.ireturn, 1) := by decide +kernel
theorem dX3_firstNotCovered_63 : decode cX3_firstNotCovered 63 = .ok (.iinc 4 1, 3) := by decide +kernel
theorem dX3_firstNotCovered_66 : decode cX3_firstNotCovered 66 = .ok (.goto (-32), 3) := by decide +kernel
theorem dX3_firstNotCovered_69 : decode cX3_firstNotCovered 69 = .ok (.iinc 2 1, 3) := by decide +kernel
theorem dX3_firstNotCovered_72 : decode cX3_firstNotCovered 72 = .ok (.goto (-60), 3) := by decide +kernel
theorem dX3_firstNotCovered_75 : decode cX3_firstNotCovered 75 = .ok (.iinc 1 1, 3) := by decide +kernel
theorem dX3_firstNotCovered_78 : decode cX3_firstNotCovered 78 = .ok (.goto (-76), 3) := by decide +kernel
theorem dX3_firstNotCovered_81 : decode cX3_firstNotCovered 81 = .ok (.bipush (-6), 2) := by decide +kernel
theorem dX3_firstNotCovered_83 : decode cX3_firstNotCovered 83 = .ok (.ireturn, 1) := by decide +kernel
theorem dX4_init_0 : decode cX4_init 0 = .ok (.aload_n 0, 1) := by decide +kernel
theorem dX4_init_1 : decode cX4_init 1 = .ok (.invokespecial 3, 3) := by decide +kernel
theorem dX4_init_4 : decode cX4_init 4 = .ok (.aload_n 0, 1) := by decide +kernel
theorem dX4_init_5 : decode cX4_init 5 = .ok (.bipush 23, 2) := by decide +kernel
theorem dX4_init_7 : decode cX4_init 7 = .ok (.newarray .int, 2) := by decide +kernel
theorem dX4_init_9 : decode cX4_init 9 = .ok (.putfield 9, 3) := by decide +kernel
theorem dX4_init_12 : decode cX4_init 12 = .ok (.iconst 0, 1) := by decide +kernel
theorem dX4_init_13 : decode cX4_init 13 = .ok (.istore_n 1, 1) := by decide +kernel
theorem dX4_init_14 : decode cX4_init 14 = .ok (.iload_n 1, 1) := by decide +kernel
theorem dX4_init_15 : decode cX4_init 15 = .ok (.bipush 23, 2) := by decide +kernel
theorem dX4_init_17 : decode cX4_init 17 = .ok (.if_icmp .ge 17, 3) := by decide +kernel
theorem dX4_init_20 : decode cX4_init 20 = .ok (.aload_n 0, 1) := by decide +kernel
theorem dX4_init_21 : decode cX4_init 21 = .ok (.getfield 9, 3) := by decide +kernel
theorem dX4_init_24 : decode cX4_init 24 = .ok (.iload_n 1, 1) := by decide +kernel
theorem dX4_init_25 : decode cX4_init 25 = .ok (.bipush 9, 2) := by decide +kernel
theorem dX4_init_27 : decode cX4_init 27 = .ok (.iastore, 1) := by decide +kernel
theorem dX4_init_28 : decode cX4_init 28 = .ok (.iinc 1 1, 3) := by decide +kernel
theorem dX4_init_31 : decode cX4_init 31 = .ok (.goto (-17), 3) := by decide +kernel
theorem dX4_init_34 : decode cX4_init 34 = .ok (.return_, 1) := by decide +kernel
theorem dX4_copyFrom_0 : decode cX4_copyFrom 0 = .ok (.iconst 0, 1) := by decide +kernel
theorem dX4_copyFrom_1 : decode cX4_copyFrom 1 = .ok (.istore_n 2, 1) := by decide +kernel
theorem dX4_copyFrom_2 : decode cX4_copyFrom 2 = .ok (.iload_n 2, 1) := by decide +kernel
theorem dX4_copyFrom_3 : decode cX4_copyFrom 3 = .ok (.bipush 23, 2) := by decide +kernel
theorem dX4_copyFrom_5 : decode cX4_copyFrom 5 = .ok (.if_icmp .ge 21, 3) := by decide +kernel
theorem dX4_copyFrom_8 : decode cX4_copyFrom 8 = .ok (.aload_n 0, 1) := by decide +kernel
theorem dX4_copyFrom_9 : decode cX4_copyFrom 9 = .ok (.getfield 9, 3) := by decide +kernel
theorem dX4_copyFrom_12 : decode cX4_copyFrom 12 = .ok (.iload_n 2, 1) := by decide +kernel
theorem dX4_copyFrom_13 : decode cX4_copyFrom 13 = .ok (.aload_n 1, 1) := by decide +kernel
theorem dX4_copyFrom_14 : decode cX4_copyFrom 14 = .ok (.getfield 9, 3) := by decide +kernel
theorem dX4_copyFrom_17 : decode cX4_copyFrom 17 = .ok (.iload_n 2, 1) := by decide +kernel
theorem dX4_copyFrom_18 : decode cX4_copyFrom 18 = .ok (.iaload, 1) := by decide +kernel
theorem dX4_copyFrom_19 : decode cX4_copyFrom 19 = .ok (.iastore, 1) := by decide +kernel
theorem dX4_copyFrom_20 : decode cX4_copyFrom 20 = .ok (.iinc 2 1, 3) := by decide +kernel
theorem dX4_copyFrom_23 : decode cX4_copyFrom 23 = .ok (.goto (-21), 3) := by decide +kernel
theorem dX4_copyFrom_26 : decode cX4_copyFrom 26 = .ok (.return_, 1) := by decide +kernel
theorem dX4_sum_0 : decode cX4_sum 0 = .ok (.iconst 0, 1) := by decide +kernel
theorem dX4_sum_1 : decode cX4_sum 1 = .ok (.istore_n 2, 1) := by decide +kernel
theorem dX4_sum_2 : decode cX4_sum 2 = .ok (.iconst 0, 1) := by decide +kernel
theorem dX4_sum_3 : decode cX4_sum 3 = .ok (.istore_n 3, 1) := by decide +kernel
theorem dX4_sum_4 : decode cX4_sum 4 = .ok (.iload_n 3, 1) := by decide +kernel
theorem dX4_sum_5 : decode cX4_sum 5 = .ok (.bipush 23, 2) := by decide +kernel
theorem dX4_sum_7 : decode cX4_sum 7 = .ok (.if_icmp .ge 27, 3) := by decide +kernel
theorem dX4_sum_10 : decode cX4_sum 10 = .ok (.iload_n 1, 1) := by decide +kernel
theorem dX4_sum_11 : decode cX4_sum 11 = .ok (.iload_n 3, 1) := by decide +kernel
theorem dX4_sum_12 : decode cX4_sum 12 = .ok (.iushr, 1) := by decide +kernel
theorem dX4_sum_13 : decode cX4_sum 13 = .ok (.iconst 1, 1) := by decide +kernel
theorem dX4_sum_14 : decode cX4_sum 14 = .ok (.iand, 1) := by decide +kernel
theorem dX4_sum_15 : decode cX4_sum 15 = .ok (.iconst 1, 1) := by decide +kernel
theorem dX4_sum_16 : decode cX4_sum 16 = .ok (.if_icmp .ne 12, 3) := by decide +kernel
theorem dX4_sum_19 : decode cX4_sum 19 = .ok (.iload_n 2, 1) := by decide +kernel
theorem dX4_sum_20 : decode cX4_sum 20 = .ok (.aload_n 0, 1) := by decide +kernel
theorem dX4_sum_21 : decode cX4_sum 21 = .ok (.getfield 9, 3) := by decide +kernel
theorem dX4_sum_24 : decode cX4_sum 24 = .ok (.iload_n 3, 1) := by decide +kernel
theorem dX4_sum_25 : decode cX4_sum 25 = .ok (.iaload, 1) := by decide +kernel
theorem dX4_sum_26 : decode cX4_sum 26 = .ok (.iadd, 1) := by decide +kernel
theorem dX4_sum_27 : decode cX4_sum 27 = .ok (.istore_n 2, 1) := by decide +kernel
theorem dX4_sum_28 : decode cX4_sum 28 = .ok (.iinc 3 1, 3) := by decide +kernel
theorem dX4_sum_31 : decode cX4_sum 31 = .ok (.goto (-27), 3) := by decide +kernel
theorem dX4_sum_34 : decode cX4_sum 34 = .ok (.iload_n 2, 1) := by decide +kernel
theorem dX4_sum_35 : decode cX4_sum 35 = .ok (.ireturn, 1) := by decide +kernel
theorem dX4_weakestBut_0 : decode cX4_weakestBut 0 = .ok (.iconst 0, 1) := by decide +kernel
theorem dX4_weakestBut_1 : decode cX4_weakestBut 1 = .ok (.istore_n 2, 1) := by decide +kernel
theorem dX4_weakestBut_2 : decode cX4_weakestBut 2 = .ok (.bipush 10, 2) := by decide +kernel
theorem dX4_weakestBut_4 : decode cX4_weakestBut 4 = .ok (.istore_n 3, 1) := by decide +kernel
theorem dX4_weakestBut_5 : decode cX4_weakestBut 5 = .ok (.iconst 0, 1) := by decide +kernel
theorem dX4_weakestBut_6 : decode cX4_weakestBut 6 = .ok (.istore 4, 2) := by decide +kernel
theorem dX4_weakestBut_8 : decode cX4_weakestBut 8 = .ok (.iload 4, 2) := by decide +kernel
theorem dX4_weakestBut_10 : decode cX4_weakestBut 10 = .ok (.bipush 23, 2) := by decide +kernel
theorem dX4_weakestBut_12 : decode cX4_weakestBut 12 = .ok (.if_icmp .ge 40, 3) := by decide +kernel
theorem dX4_weakestBut_15 : decode cX4_weakestBut 15 = .ok (.iload_n 1, 1) := by decide +kernel
theorem dX4_weakestBut_16 : decode cX4_weakestBut 16 = .ok (.iload 4, 2) := by decide +kernel
theorem dX4_weakestBut_18 : decode cX4_weakestBut 18 = .ok (.iushr, 1) := by decide +kernel
theorem dX4_weakestBut_19 : decode cX4_weakestBut 19 = .ok (.iconst 1, 1) := by decide +kernel
theorem dX4_weakestBut_20 : decode cX4_weakestBut 20 = .ok (.iand, 1) := by decide +kernel
theorem dX4_weakestBut_21 : decode cX4_weakestBut 21 = .ok (.ifCond .ne 25, 3) := by decide +kernel
theorem dX4_weakestBut_24 : decode cX4_weakestBut 24 = .ok (.aload_n 0, 1) := by decide +kernel
theorem dX4_weakestBut_25 : decode cX4_weakestBut 25 = .ok (.getfield 9, 3) := by decide +kernel
theorem dX4_weakestBut_28 : decode cX4_weakestBut 28 = .ok (.iload 4, 2) := by decide +kernel
theorem dX4_weakestBut_30 : decode cX4_weakestBut 30 = .ok (.iaload, 1) := by decide +kernel
theorem dX4_weakestBut_31 : decode cX4_weakestBut 31 = .ok (.iload_n 3, 1) := by decide +kernel
theorem dX4_weakestBut_32 : decode cX4_weakestBut 32 = .ok (.if_icmp .ge 14, 3) := by decide +kernel
theorem dX4_weakestBut_35 : decode cX4_weakestBut 35 = .ok (.aload_n 0, 1) := by decide +kernel
theorem dX4_weakestBut_36 : decode cX4_weakestBut 36 = .ok (.getfield 9, 3) := by decide +kernel
theorem dX4_weakestBut_39 : decode cX4_weakestBut 39 = .ok (.iload 4, 2) := by decide +kernel
theorem dX4_weakestBut_41 : decode cX4_weakestBut 41 = .ok (.iaload, 1) := by decide +kernel
theorem dX4_weakestBut_42 : decode cX4_weakestBut 42 = .ok (.istore_n 3, 1) := by decide +kernel
theorem dX4_weakestBut_43 : decode cX4_weakestBut 43 = .ok (.iload 4, 2) := by decide +kernel
theorem dX4_weakestBut_45 : decode cX4_weakestBut 45 = .ok (.istore_n 2, 1) := by decide +kernel
theorem dX4_weakestBut_46 : decode cX4_weakestBut 46 = .ok (.iinc 4 1, 3) := by decide +kernel
theorem dX4_weakestBut_49 : decode cX4_weakestBut 49 = .ok (.goto (-41), 3) := by decide +kernel
theorem dX4_weakestBut_52 : decode cX4_weakestBut 52 = .ok (.iload_n 2, 1) := by decide +kernel
theorem dX4_weakestBut_53 : decode cX4_weakestBut 53 = .ok (.ireturn, 1) := by decide +kernel
set_option maxRecDepth 20000 in
theorem ggX5_init_X2_init : GoodIn wsX5_init wsX2_init := goodIn_r _ [17, 18, 2, 3, 14, 19, 20, 21, 22, 23, 24, 25, 6, 26, 27, 28, 29, 52] (by decide +kernel) (by decide +kernel)
set_option maxRecDepth 20000 in
theorem gX5_init_X2_init_n11 : GoodIn wsX5_init (wsX2_init) := ggX5_init_X2_init
set_option maxRecDepth 20000 in
theorem ggX5_init_X1_init : GoodIn wsX5_init wsX1_init := goodIn_r _ [31, 32, 2, 3, 33, 34, 35, 36, 37, 38, 39, 40, 41, 42, 43, 44, 14, 45, 46, 47, 48, 49, 50, 51, 60, 61, 62, 63, 58, 59, 64] (by decide +kernel) (by decide +kernel)
set_option maxRecDepth 20000 in
theorem gX5_init_X1_init_n18 : GoodIn wsX5_init (wsX1_init) := ggX5_init_X1_init
theorem dX5_init_0 : decode cX5_init 0 = .ok (.aload_n 0, 1) := by decide +kernel
theorem dX5_init_1 : decode cX5_init 1 = .ok (.invokespecial 3, 3) := by decide +kernel
theorem dX5_init_4 : decode cX5_init 4 = .ok (.aload_n 0, 1) := by decide +kernel
theorem dX5_init_5 : decode cX5_init 5 = .ok (.new 9, 3) := by decide +kernel
theorem dX5_init_8 : decode cX5_init 8 = .ok (.dup, 1) := by decide +kernel
theorem dX5_init_9 : decode cX5_init 9 = .ok (.invokespecial 11, 3) := by decide +kernel
theorem dX5_init_12 : decode cX5_init 12 = .ok (.putfield 12, 3) := by decide +kernel
theorem dX5_init_15 : decode cX5_init 15 = .ok (.aload_n 0, 1) := by decide +kernel
theorem dX5_init_16 : decode cX5_init 16 = .ok (.new 16, 3) := by decide +kernel
theorem dX5_init_19 : decode cX5_init 19 = .ok (.dup, 1) := by decide +kernel
theorem dX5_init_20 : decode cX5_init 20 = .ok (.invokespecial 18, 3) := by decide +kernel
theorem dX5_init_23 : decode cX5_init 23 = .ok (.putfield 19, 3) := by decide +kernel
theorem dX5_init_26 : decode cX5_init 26 = .ok (.aload_n 0, 1) := by decide +kernel
theorem dX5_init_27 : decode cX5_init 27 = .ok (.iconst 2, 1) := by decide +kernel
theorem dX5_init_28 : decode cX5_init 28 = .ok (.anewarray 16, 3) := by decide +kernel
theorem dX5_init_31 : decode cX5_init 31 = .ok (.putfield 23, 3) := by decide +kernel
theorem dX5_init_34 : decode cX5_init 34 = .ok (.iconst 0, 1) := by decide +kernel
theorem dX5_init_35 : decode cX5_init 35 = .ok (.istore_n 1, 1) := by decide +kernel
theorem dX5_init_36 : decode cX5_init 36 = .ok (.iload_n 1, 1) := by decide +kernel
theorem dX5_init_37 : decode cX5_init 37 = .ok (.iconst 2, 1) := by decide +kernel
theorem dX5_init_38 : decode cX5_init 38 = .ok (.if_icmp .ge 22, 3) := by decide +kernel
theorem dX5_init_41 : decode cX5_init 41 = .ok (.aload_n 0, 1) := by decide +kernel
theorem dX5_init_42 : decode cX5_init 42 = .ok (.getfield 23, 3) := by decide +kernel
theorem dX5_init_45 : decode cX5_init 45 = .ok (.iload_n 1, 1) := by decide +kernel
theorem dX5_init_46 : decode cX5_init 46 = .ok (.new 16, 3) := by decide +kernel
theorem dX5_init_49 : decode cX5_init 49 = .ok (.dup, 1) := by decide +kernel
theorem dX5_init_50 : decode cX5_init 50 = .ok (.invokespecial 18, 3) := by decide +kernel
theorem dX5_init_53 : decode cX5_init 53 = .ok (.aastore, 1) := by decide +kernel
theorem dX5_init_54 : decode cX5_init 54 = .ok (.iinc 1 1, 3) := by decide +kernel
theorem dX5_init_57 : decode cX5_init 57 = .ok (.goto (-21), 3) := by decide +kernel
theorem dX5_init_60 : decode cX5_init 60 = .ok (.aload_n 0, 1) := by decide +kernel
theorem dX5_init_61 : decode cX5_init 61 = .ok (.iconst 0, 1) := by decide +kernel
theorem dX5_init_62 : decode cX5_init 62 = .ok (.putfield 27, 3) := by decide +kernel
theorem dX5_init_65 : decode cX5_init 65 = .ok (.aload_n 0, 1) := by decide +kernel
theorem dX5_init_66 : decode cX5_init 66 = .ok (.bipush 16, 2) := by decide +kernel
theorem dX5_init_68 : decode cX5_init 68 = .ok (.newarray .int, 2) := by decide +kernel
theorem dX5_init_70 : decode cX5_init 70 = .ok (.putfield 31, 3) := by decide +kernel
theorem dX5_init_73 : decode cX5_init 73 = .ok (.return_, 1) := by decide +kernel
set_option maxRecDepth 20000 in
theorem ggX5_made_X5_isBelow : GoodIn wsX5_made wsX5_isBelow := goodIn_r _ [4] (by decide +kernel) (by decide +kernel)
set_option maxRecDepth 20000 in
theorem gX5_made_X5_isBelow : GoodIn wsX5_made (va_wsS RX5 35 yX5_isBelow wsX5_isBelow) := goodIn_app (goodIn_of _ (by decide +kernel)) ggX5_made_X5_isBelow
set_option maxRecDepth 20000 in
theorem ggX5_made_X0_coded : GoodIn wsX5_made wsX0_coded := goodIn_r _ [7, 8, 9, 6, 10] (by decide +kernel) (by decide +kernel)
set_option maxRecDepth 20000 in
theorem gX5_made_X0_coded_n39 : GoodIn wsX5_made (wsX0_coded) := ggX5_made_X0_coded
theorem dX5_made_0 : decode cX5_made 0 = .ok (.iload_n 1, 1) := by decide +kernel
theorem dX5_made_1 : decode cX5_made 1 = .ok (.sipush 4096, 3) := by decide +kernel
theorem dX5_made_4 : decode cX5_made 4 = .ok (.invokestatic 35, 3) := by decide +kernel
theorem dX5_made_7 : decode cX5_made 7 = .ok (.ifCond .eq 10, 3) := by decide +kernel
theorem dX5_made_10 : decode cX5_made 10 = .ok (.iload_n 1, 1) := by decide +kernel
theorem dX5_made_11 : decode cX5_made 11 = .ok (.invokestatic 39, 3) := by decide +kernel
theorem dX5_made_14 : decode cX5_made 14 = .ok (.goto 5, 3) := by decide +kernel
theorem dX5_made_17 : decode cX5_made 17 = .ok (.bipush (-2), 2) := by decide +kernel
theorem dX5_made_19 : decode cX5_made 19 = .ok (.ireturn, 1) := by decide +kernel
set_option maxRecDepth 20000 in
theorem ggX5_rest_X5_isBelow : GoodIn wsX5_rest wsX5_isBelow := goodIn_r _ [5] (by decide +kernel) (by decide +kernel)
set_option maxRecDepth 20000 in
theorem gX5_rest_X5_isBelow : GoodIn wsX5_rest (va_wsS RX5 35 yX5_isBelow wsX5_isBelow) := goodIn_app (goodIn_of _ (by decide +kernel)) ggX5_rest_X5_isBelow
set_option maxRecDepth 20000 in
theorem ggX5_rest_X0_remainder : GoodIn wsX5_rest wsX0_remainder := goodIn_r _ [8] (by decide +kernel) (by decide +kernel)
set_option maxRecDepth 20000 in
theorem gX5_rest_X0_remainder_n46 : GoodIn wsX5_rest (wsX0_remainder) := ggX5_rest_X0_remainder
theorem dX5_rest_0 : decode cX5_rest 0 = .ok (.iload_n 1, 1) := by decide +kernel
theorem dX5_rest_1 : decode cX5_rest 1 = .ok (.ldc 45, 2) := by decide +kernel
theorem dX5_rest_3 : decode cX5_rest 3 = .ok (.invokestatic 35, 3) := by decide +kernel
theorem dX5_rest_6 : decode cX5_rest 6 = .ok (.ifCond .eq 10, 3) := by decide +kernel
theorem dX5_rest_9 : decode cX5_rest 9 = .ok (.iload_n 1, 1) := by decide +kernel
theorem dX5_rest_10 : decode cX5_rest 10 = .ok (.invokestatic 46, 3) := by decide +kernel
theorem dX5_rest_13 : decode cX5_rest 13 = .ok (.goto 5, 3) := by decide +kernel
theorem dX5_rest_16 : decode cX5_rest 16 = .ok (.bipush (-2), 2) := by decide +kernel
theorem dX5_rest_18 : decode cX5_rest 18 = .ok (.ireturn, 1) := by decide +kernel
set_option maxRecDepth 20000 in
theorem ggX5_of_X5_isBelow : GoodIn wsX5_of wsX5_isBelow := goodIn_r _ [6] (by decide +kernel) (by decide +kernel)
set_option maxRecDepth 20000 in
theorem gX5_of_X5_isBelow : GoodIn wsX5_of (va_wsS RX5 35 yX5_isBelow wsX5_isBelow) := goodIn_app (goodIn_of _ (by decide +kernel)) ggX5_of_X5_isBelow
set_option maxRecDepth 20000 in
theorem ggX5_of_J6_bitCount_0f7a4 : GoodIn wsX5_of wsJ6_bitCount_0f7a4 := goodIn_r _ [10, 11, 12, 13] (by decide +kernel) (by decide +kernel)
set_option maxRecDepth 20000 in
theorem gX5_of_J6_bitCount_0f7a4 : GoodIn wsX5_of (va_wsS RX5 49 yJ6_bitCount_0f7a4 wsJ6_bitCount_0f7a4) := goodIn_app (goodIn_of _ (by decide +kernel)) ggX5_of_J6_bitCount_0f7a4
set_option maxRecDepth 20000 in
theorem ggX5_of_X2_nearest : GoodIn wsX5_of wsX2_nearest := goodIn_r _ [17, 18, 19, 20, 15, 21, 22, 23, 24, 25, 4, 5, 6, 37] (by decide +kernel) (by decide +kernel)
set_option maxRecDepth 20000 in
theorem gX5_of_X2_nearest_n54 : GoodIn wsX5_of (wsX2_nearest) := ggX5_of_X2_nearest
set_option maxRecDepth 20000 in
theorem ggX5_of_X2_distance : GoodIn wsX5_of wsX2_distance := goodIn_r _ [28, 18, 19, 20, 15, 21, 22, 23, 24, 25, 4, 5, 6, 29, 8, 9, 10, 11, 12, 13, 37] (by decide +kernel) (by decide +kernel)
set_option maxRecDepth 20000 in
theorem gX5_of_X2_distance_n57 : GoodIn wsX5_of (wsX2_distance) := ggX5_of_X2_distance
set_option maxRecDepth 20000 in
theorem ggX5_of_X0_message : GoodIn wsX5_of wsX0_message := goodIn_r _ [31] (by decide +kernel) (by decide +kernel)
set_option maxRecDepth 20000 in
theorem gX5_of_X0_message_n60 : GoodIn wsX5_of (wsX0_message) := ggX5_of_X0_message
