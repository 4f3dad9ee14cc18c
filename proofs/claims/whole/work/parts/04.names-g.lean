theorem dX5_fillTries_64 : decode cX5_fillTries 64 = .ok (.aload_n 0, 1) := by decide +kernel
theorem dX5_fillTries_65 : decode cX5_fillTries 65 = .ok (.getfield 31, 3) := by decide +kernel
theorem dX5_fillTries_68 : decode cX5_fillTries 68 = .ok (.iload 7, 2) := by decide +kernel
theorem dX5_fillTries_70 : decode cX5_fillTries 70 = .ok (.iaload, 1) := by decide +kernel
theorem dX5_fillTries_71 : decode cX5_fillTries 71 = .ok (.iload 5, 2) := by decide +kernel
theorem dX5_fillTries_73 : decode cX5_fillTries 73 = .ok (.ixor, 1) := by decide +kernel
theorem dX5_fillTries_74 : decode cX5_fillTries 74 = .ok (.iastore, 1) := by decide +kernel
theorem dX5_fillTries_75 : decode cX5_fillTries 75 = .ok (.iinc 7 1, 3) := by decide +kernel
theorem dX5_fillTries_78 : decode cX5_fillTries 78 = .ok (.goto (-30), 3) := by decide +kernel
theorem dX5_fillTries_81 : decode cX5_fillTries 81 = .ok (.iload_n 3, 1) := by decide +kernel
theorem dX5_fillTries_82 : decode cX5_fillTries 82 = .ok (.iload 5, 2) := by decide +kernel
theorem dX5_fillTries_84 : decode cX5_fillTries 84 = .ok (.ior, 1) := by decide +kernel
theorem dX5_fillTries_85 : decode cX5_fillTries 85 = .ok (.istore_n 3, 1) := by decide +kernel
theorem dX5_fillTries_86 : decode cX5_fillTries 86 = .ok (.iinc 4 1, 3) := by decide +kernel
theorem dX5_fillTries_89 : decode cX5_fillTries 89 = .ok (.goto (-77), 3) := by decide +kernel
theorem dX5_fillTries_92 : decode cX5_fillTries 92 = .ok (.iconst 0, 1) := by decide +kernel
theorem dX5_fillTries_93 : decode cX5_fillTries 93 = .ok (.istore 4, 2) := by decide +kernel
theorem dX5_fillTries_95 : decode cX5_fillTries 95 = .ok (.iload 4, 2) := by decide +kernel
theorem dX5_fillTries_97 : decode cX5_fillTries 97 = .ok (.iconst 1, 1) := by decide +kernel
theorem dX5_fillTries_98 : decode cX5_fillTries 98 = .ok (.iload_n 2, 1) := by decide +kernel
theorem dX5_fillTries_99 : decode cX5_fillTries 99 = .ok (.ishl, 1) := by decide +kernel
theorem dX5_fillTries_100 : decode cX5_fillTries 100 = .ok (.if_icmp .ge 37, 3) := by decide +kernel
theorem dX5_fillTries_103 : decode cX5_fillTries 103 = .ok (.iload 4, 2) := by decide +kernel
theorem dX5_fillTries_105 : decode cX5_fillTries 105 = .ok (.bipush 16, 2) := by decide +kernel
theorem dX5_fillTries_107 : decode cX5_fillTries 107 = .ok (.if_icmp .ge 30, 3) := by decide +kernel
theorem dX5_fillTries_110 : decode cX5_fillTries 110 = .ok (.aload_n 0, 1) := by decide +kernel
theorem dX5_fillTries_111 : decode cX5_fillTries 111 = .ok (.getfield 31, 3) := by decide +kernel
theorem dX5_fillTries_114 : decode cX5_fillTries 114 = .ok (.iload 4, 2) := by decide +kernel
theorem dX5_fillTries_116 : decode cX5_fillTries 116 = .ok (.aload_n 0, 1) := by decide +kernel
theorem dX5_fillTries_117 : decode cX5_fillTries 117 = .ok (.getfield 12, 3) := by decide +kernel
theorem dX5_fillTries_120 : decode cX5_fillTries 120 = .ok (.aload_n 0, 1) := by decide +kernel
theorem dX5_fillTries_121 : decode cX5_fillTries 121 = .ok (.getfield 31, 3) := by decide +kernel
theorem dX5_fillTries_124 : decode cX5_fillTries 124 = .ok (.iload 4, 2) := by decide +kernel
theorem dX5_fillTries_126 : decode cX5_fillTries 126 = .ok (.iaload, 1) := by decide +kernel
theorem dX5_fillTries_127 : decode cX5_fillTries 127 = .ok (.invokevirtual 54, 3) := by decide +kernel
theorem dX5_fillTries_130 : decode cX5_fillTries 130 = .ok (.iastore, 1) := by decide +kernel
theorem dX5_fillTries_131 : decode cX5_fillTries 131 = .ok (.iinc 4 1, 3) := by decide +kernel
theorem dX5_fillTries_134 : decode cX5_fillTries 134 = .ok (.goto (-39), 3) := by decide +kernel
theorem dX5_fillTries_137 : decode cX5_fillTries 137 = .ok (.return_, 1) := by decide +kernel
set_option maxRecDepth 20000 in
theorem ggX5_bestTry_X4_sum : GoodIn wsX5_bestTry wsX4_sum := goodIn_r _ [6, 7, 15] (by decide +kernel) (by decide +kernel)
set_option maxRecDepth 20000 in
theorem gX5_bestTry_X4_sum_n145 : GoodIn wsX5_bestTry (wsX4_sum) := ggX5_bestTry_X4_sum
theorem dX5_bestTry_0 : decode cX5_bestTry 0 = .ok (.iconst 0, 1) := by decide +kernel
theorem dX5_bestTry_1 : decode cX5_bestTry 1 = .ok (.istore_n 3, 1) := by decide +kernel
theorem dX5_bestTry_2 : decode cX5_bestTry 2 = .ok (.aload_n 0, 1) := by decide +kernel
theorem dX5_bestTry_3 : decode cX5_bestTry 3 = .ok (.getfield 19, 3) := by decide +kernel
theorem dX5_bestTry_6 : decode cX5_bestTry 6 = .ok (.getfield 124, 3) := by decide +kernel
theorem dX5_bestTry_9 : decode cX5_bestTry 9 = .ok (.aload_n 0, 1) := by decide +kernel
theorem dX5_bestTry_10 : decode cX5_bestTry 10 = .ok (.getfield 31, 3) := by decide +kernel
theorem dX5_bestTry_13 : decode cX5_bestTry 13 = .ok (.iconst 0, 1) := by decide +kernel
theorem dX5_bestTry_14 : decode cX5_bestTry 14 = .ok (.iaload, 1) := by decide +kernel
theorem dX5_bestTry_15 : decode cX5_bestTry 15 = .ok (.iload_n 1, 1) := by decide +kernel
theorem dX5_bestTry_16 : decode cX5_bestTry 16 = .ok (.ixor, 1) := by decide +kernel
theorem dX5_bestTry_17 : decode cX5_bestTry 17 = .ok (.invokevirtual 145, 3) := by decide +kernel
theorem dX5_bestTry_20 : decode cX5_bestTry 20 = .ok (.istore 4, 2) := by decide +kernel
theorem dX5_bestTry_22 : decode cX5_bestTry 22 = .ok (.iconst 1, 1) := by decide +kernel
theorem dX5_bestTry_23 : decode cX5_bestTry 23 = .ok (.istore 5, 2) := by decide +kernel
theorem dX5_bestTry_25 : decode cX5_bestTry 25 = .ok (.iload 5, 2) := by decide +kernel
theorem dX5_bestTry_27 : decode cX5_bestTry 27 = .ok (.iload_n 2, 1) := by decide +kernel
theorem dX5_bestTry_28 : decode cX5_bestTry 28 = .ok (.if_icmp .ge 51, 3) := by decide +kernel
theorem dX5_bestTry_31 : decode cX5_bestTry 31 = .ok (.iload 5, 2) := by decide +kernel
theorem dX5_bestTry_33 : decode cX5_bestTry 33 = .ok (.bipush 16, 2) := by decide +kernel
theorem dX5_bestTry_35 : decode cX5_bestTry 35 = .ok (.if_icmp .ge 44, 3) := by decide +kernel
theorem dX5_bestTry_38 : decode cX5_bestTry 38 = .ok (.aload_n 0, 1) := by decide +kernel
theorem dX5_bestTry_39 : decode cX5_bestTry 39 = .ok (.getfield 19, 3) := by decide +kernel
theorem dX5_bestTry_42 : decode cX5_bestTry 42 = .ok (.getfield 124, 3) := by decide +kernel
theorem dX5_bestTry_45 : decode cX5_bestTry 45 = .ok (.aload_n 0, 1) := by decide +kernel
theorem dX5_bestTry_46 : decode cX5_bestTry 46 = .ok (.getfield 31, 3) := by decide +kernel
theorem dX5_bestTry_49 : decode cX5_bestTry 49 = .ok (.iload 5, 2) := by decide +kernel
theorem dX5_bestTry_51 : decode cX5_bestTry 51 = .ok (.iaload, 1) := by decide +kernel
theorem dX5_bestTry_52 : decode cX5_bestTry 52 = .ok (.iload_n 1, 1) := by decide +kernel
theorem dX5_bestTry_53 : decode cX5_bestTry 53 = .ok (.ixor, 1) := by decide +kernel
theorem dX5_bestTry_54 : decode cX5_bestTry 54 = .ok (.invokevirtual 145, 3) := by decide +kernel
theorem dX5_bestTry_57 : decode cX5_bestTry 57 = .ok (.istore 6, 2) := by decide +kernel
theorem dX5_bestTry_59 : decode cX5_bestTry 59 = .ok (.iload 6, 2) := by decide +kernel
theorem dX5_bestTry_61 : decode cX5_bestTry 61 = .ok (.iload 4, 2) := by decide +kernel
theorem dX5_bestTry_63 : decode cX5_bestTry 63 = .ok (.if_icmp .ge 10, 3) := by decide +kernel
theorem dX5_bestTry_66 : decode cX5_bestTry 66 = .ok (.iload 6, 2) := by decide +kernel
theorem dX5_bestTry_68 : decode cX5_bestTry 68 = .ok (.istore 4, 2) := by decide +kernel
theorem dX5_bestTry_70 : decode cX5_bestTry 70 = .ok (.iload 5, 2) := by decide +kernel
theorem dX5_bestTry_72 : decode cX5_bestTry 72 = .ok (.istore_n 3, 1) := by decide +kernel
theorem dX5_bestTry_73 : decode cX5_bestTry 73 = .ok (.iinc 5 1, 3) := by decide +kernel
theorem dX5_bestTry_76 : decode cX5_bestTry 76 = .ok (.goto (-51), 3) := by decide +kernel
theorem dX5_bestTry_79 : decode cX5_bestTry 79 = .ok (.iload_n 3, 1) := by decide +kernel
theorem dX5_bestTry_80 : decode cX5_bestTry 80 = .ok (.ireturn, 1) := by decide +kernel
set_option maxRecDepth 20000 in
theorem ggX5_unlikeTries_X5_isFirstOfItsWord : GoodIn wsX5_unlikeTries wsX5_isFirstOfItsWord := goodIn_r _ [5, 6, 7, 8, 9, 10, 11] (by decide +kernel) (by decide +kernel)
set_option maxRecDepth 20000 in
theorem gX5_unlikeTries_X5_isFirstOfItsWord : GoodIn wsX5_unlikeTries (wsV RX5 155 RX5 yX5_isFirstOfItsWord wsX5_isFirstOfItsWord) := goodIn_app (goodIn_of _ (by decide +kernel)) ggX5_unlikeTries_X5_isFirstOfItsWord
theorem dX5_unlikeTries_0 : decode cX5_unlikeTries 0 = .ok (.iconst 0, 1) := by decide +kernel
theorem dX5_unlikeTries_1 : decode cX5_unlikeTries 1 = .ok (.istore_n 2, 1) := by decide +kernel
theorem dX5_unlikeTries_2 : decode cX5_unlikeTries 2 = .ok (.iconst 0, 1) := by decide +kernel
theorem dX5_unlikeTries_3 : decode cX5_unlikeTries 3 = .ok (.istore_n 3, 1) := by decide +kernel
theorem dX5_unlikeTries_4 : decode cX5_unlikeTries 4 = .ok (.iload_n 3, 1) := by decide +kernel
theorem dX5_unlikeTries_5 : decode cX5_unlikeTries 5 = .ok (.iload_n 1, 1) := by decide +kernel
theorem dX5_unlikeTries_6 : decode cX5_unlikeTries 6 = .ok (.if_icmp .ge 26, 3) := by decide +kernel
theorem dX5_unlikeTries_9 : decode cX5_unlikeTries 9 = .ok (.iload_n 3, 1) := by decide +kernel
theorem dX5_unlikeTries_10 : decode cX5_unlikeTries 10 = .ok (.bipush 16, 2) := by decide +kernel
theorem dX5_unlikeTries_12 : decode cX5_unlikeTries 12 = .ok (.if_icmp .ge 20, 3) := by decide +kernel
theorem dX5_unlikeTries_15 : decode cX5_unlikeTries 15 = .ok (.aload_n 0, 1) := by decide +kernel
theorem dX5_unlikeTries_16 : decode cX5_unlikeTries 16 = .ok (.iload_n 3, 1) := by decide +kernel
theorem dX5_unlikeTries_17 : decode cX5_unlikeTries 17 = .ok (.invokevirtual 155, 3) := by decide +kernel
theorem dX5_unlikeTries_20 : decode cX5_unlikeTries 20 = .ok (.ifCond .eq 6, 3) := by decide +kernel
theorem dX5_unlikeTries_23 : decode cX5_unlikeTries 23 = .ok (.iinc 2 1, 3) := by decide +kernel
theorem dX5_unlikeTries_26 : decode cX5_unlikeTries 26 = .ok (.iinc 3 1, 3) := by decide +kernel
theorem dX5_unlikeTries_29 : decode cX5_unlikeTries 29 = .ok (.goto (-25), 3) := by decide +kernel
theorem dX5_unlikeTries_32 : decode cX5_unlikeTries 32 = .ok (.iload_n 2, 1) := by decide +kernel
theorem dX5_unlikeTries_33 : decode cX5_unlikeTries 33 = .ok (.ireturn, 1) := by decide +kernel
theorem dX5_isFirstOfItsWord_0 : decode cX5_isFirstOfItsWord 0 = .ok (.iconst 0, 1) := by decide +kernel
theorem dX5_isFirstOfItsWord_1 : decode cX5_isFirstOfItsWord 1 = .ok (.istore_n 2, 1) := by decide +kernel
theorem dX5_isFirstOfItsWord_2 : decode cX5_isFirstOfItsWord 2 = .ok (.iload_n 2, 1) := by decide +kernel
theorem dX5_isFirstOfItsWord_3 : decode cX5_isFirstOfItsWord 3 = .ok (.iload_n 1, 1) := by decide +kernel
theorem dX5_isFirstOfItsWord_4 : decode cX5_isFirstOfItsWord 4 = .ok (.if_icmp .ge 26, 3) := by decide +kernel
theorem dX5_isFirstOfItsWord_7 : decode cX5_isFirstOfItsWord 7 = .ok (.aload_n 0, 1) := by decide +kernel
theorem dX5_isFirstOfItsWord_8 : decode cX5_isFirstOfItsWord 8 = .ok (.getfield 31, 3) := by decide +kernel
theorem dX5_isFirstOfItsWord_11 : decode cX5_isFirstOfItsWord 11 = .ok (.iload_n 2, 1) := by decide +kernel
theorem dX5_isFirstOfItsWord_12 : decode cX5_isFirstOfItsWord 12 = .ok (.iaload, 1) := by decide +kernel
theorem dX5_isFirstOfItsWord_13 : decode cX5_isFirstOfItsWord 13 = .ok (.aload_n 0, 1) := by decide +kernel
theorem dX5_isFirstOfItsWord_14 : decode cX5_isFirstOfItsWord 14 = .ok (.getfield 31, 3) := by decide +kernel
theorem dX5_isFirstOfItsWord_17 : decode cX5_isFirstOfItsWord 17 = .ok (.iload_n 1, 1) := by decide +kernel
theorem dX5_isFirstOfItsWord_18 : decode cX5_isFirstOfItsWord 18 = .ok (.iaload, 1) := by decide +kernel
theorem dX5_isFirstOfItsWord_19 : decode cX5_isFirstOfItsWord 19 = .ok (.if_icmp .ne 5, 3) := by decide +kernel
theorem dX5_isFirstOfItsWord_22 : decode cX5_isFirstOfItsWord 22 = .ok (.iconst 0, 1) := by decide +kernel
theorem dX5_isFirstOfItsWord_23 : decode cX5_isFirstOfItsWord 23 = .ok (.ireturn, 1) := by decide +kernel
theorem dX5_isFirstOfItsWord_24 : decode cX5_isFirstOfItsWord 24 = .ok (.iinc 2 1, 3) := by decide +kernel
theorem dX5_isFirstOfItsWord_27 : decode cX5_isFirstOfItsWord 27 = .ok (.goto (-25), 3) := by decide +kernel
theorem dX5_isFirstOfItsWord_30 : decode cX5_isFirstOfItsWord 30 = .ok (.iconst 1, 1) := by decide +kernel
theorem dX5_isFirstOfItsWord_31 : decode cX5_isFirstOfItsWord 31 = .ok (.ireturn, 1) := by decide +kernel
set_option maxRecDepth 20000 in
theorem ggX6_init_X6_layErrors : GoodIn wsX6_init wsX6_layErrors := goodIn_r _ [15, 9, 16, 17, 14, 18, 19, 20, 21, 22, 23, 24, 25] (by decide +kernel) (by decide +kernel)
set_option maxRecDepth 20000 in
theorem gX6_init_X6_layErrors : GoodIn wsX6_init (wsV RX6 26 RX6 yX6_layErrors wsX6_layErrors) := goodIn_app (goodIn_of _ (by decide +kernel)) ggX6_init_X6_layErrors
theorem dX6_init_0 : decode cX6_init 0 = .ok (.aload_n 0, 1) := by decide +kernel
theorem dX6_init_1 : decode cX6_init 1 = .ok (.invokespecial 1, 3) := by decide +kernel
theorem dX6_init_4 : decode cX6_init 4 = .ok (.aload_n 0, 1) := by decide +kernel
theorem dX6_init_5 : decode cX6_init 5 = .ok (.bipush 40, 2) := by decide +kernel
theorem dX6_init_7 : decode cX6_init 7 = .ok (.newarray .int, 2) := by decide +kernel
theorem dX6_init_9 : decode cX6_init 9 = .ok (.putfield 7, 3) := by decide +kernel
theorem dX6_init_12 : decode cX6_init 12 = .ok (.aload_n 0, 1) := by decide +kernel
theorem dX6_init_13 : decode cX6_init 13 = .ok (.bipush 80, 2) := by decide +kernel
theorem dX6_init_15 : decode cX6_init 15 = .ok (.newarray .int, 2) := by decide +kernel
theorem dX6_init_17 : decode cX6_init 17 = .ok (.putfield 13, 3) := by decide +kernel
theorem dX6_init_20 : decode cX6_init 20 = .ok (.aload_n 0, 1) := by decide +kernel
theorem dX6_init_21 : decode cX6_init 21 = .ok (.iconst 2, 1) := by decide +kernel
theorem dX6_init_22 : decode cX6_init 22 = .ok (.newarray .boolean, 2) := by decide +kernel
theorem dX6_init_24 : decode cX6_init 24 = .ok (.putfield 16, 3) := by decide +kernel
theorem dX6_init_27 : decode cX6_init 27 = .ok (.aload_n 0, 1) := by decide +kernel
theorem dX6_init_28 : decode cX6_init 28 = .ok (.sipush 2048, 3) := by decide +kernel
theorem dX6_init_31 : decode cX6_init 31 = .ok (.newarray .int, 2) := by decide +kernel
theorem dX6_init_33 : decode cX6_init 33 = .ok (.putfield 20, 3) := by decide +kernel
theorem dX6_init_36 : decode cX6_init 36 = .ok (.aload_n 0, 1) := by decide +kernel
theorem dX6_init_37 : decode cX6_init 37 = .ok (.bipush 16, 2) := by decide +kernel
theorem dX6_init_39 : decode cX6_init 39 = .ok (.newarray .int, 2) := by decide +kernel
theorem dX6_init_41 : decode cX6_init 41 = .ok (.putfield 23, 3) := by decide +kernel
theorem dX6_init_44 : decode cX6_init 44 = .ok (.iconst 0, 1) := by decide +kernel
theorem dX6_init_45 : decode cX6_init 45 = .ok (.istore_n 1, 1) := by decide +kernel
theorem dX6_init_46 : decode cX6_init 46 = .ok (.iload_n 1, 1) := by decide +kernel
theorem dX6_init_47 : decode cX6_init 47 = .ok (.bipush 23, 2) := by decide +kernel
theorem dX6_init_49 : decode cX6_init 49 = .ok (.if_icmp .ge 20, 3) := by decide +kernel
theorem dX6_init_52 : decode cX6_init 52 = .ok (.aload_n 0, 1) := by decide +kernel
theorem dX6_init_53 : decode cX6_init 53 = .ok (.getfield 7, 3) := by decide +kernel
theorem dX6_init_56 : decode cX6_init 56 = .ok (.bipush 17, 2) := by decide +kernel
theorem dX6_init_58 : decode cX6_init 58 = .ok (.iload_n 1, 1) := by decide +kernel
theorem dX6_init_59 : decode cX6_init 59 = .ok (.iadd, 1) := by decide +kernel
theorem dX6_init_60 : decode cX6_init 60 = .ok (.bipush 9, 2) := by decide +kernel
theorem dX6_init_62 : decode cX6_init 62 = .ok (.iastore, 1) := by decide +kernel
theorem dX6_init_63 : decode cX6_init 63 = .ok (.iinc 1 1, 3) := by decide +kernel
theorem dX6_init_66 : decode cX6_init 66 = .ok (.goto (-20), 3) := by decide +kernel
theorem dX6_init_69 : decode cX6_init 69 = .ok (.iconst 0, 1) := by decide +kernel
theorem dX6_init_70 : decode cX6_init 70 = .ok (.istore_n 1, 1) := by decide +kernel
theorem dX6_init_71 : decode cX6_init 71 = .ok (.iload_n 1, 1) := by decide +kernel
theorem dX6_init_72 : decode cX6_init 72 = .ok (.bipush 23, 2) := by decide +kernel
theorem dX6_init_74 : decode cX6_init 74 = .ok (.if_icmp .ge 74, 3) := by decide +kernel
theorem dX6_init_77 : decode cX6_init 77 = .ok (.aload_n 0, 1) := by decide +kernel
theorem dX6_init_78 : decode cX6_init 78 = .ok (.iconst 1, 1) := by decide +kernel
theorem dX6_init_79 : decode cX6_init 79 = .ok (.iload_n 1, 1) := by decide +kernel
theorem dX6_init_80 : decode cX6_init 80 = .ok (.ishl, 1) := by decide +kernel
theorem dX6_init_81 : decode cX6_init 81 = .ok (.invokevirtual 26, 3) := by decide +kernel
theorem dX6_init_84 : decode cX6_init 84 = .ok (.iload_n 1, 1) := by decide +kernel
theorem dX6_init_85 : decode cX6_init 85 = .ok (.iconst 1, 1) := by decide +kernel
theorem dX6_init_86 : decode cX6_init 86 = .ok (.iadd, 1) := by decide +kernel
theorem dX6_init_87 : decode cX6_init 87 = .ok (.istore_n 2, 1) := by decide +kernel
theorem dX6_init_88 : decode cX6_init 88 = .ok (.iload_n 2, 1) := by decide +kernel
theorem dX6_init_89 : decode cX6_init 89 = .ok (.bipush 23, 2) := by decide +kernel
theorem dX6_init_91 : decode cX6_init 91 = .ok (.if_icmp .ge 51, 3) := by decide +kernel
theorem dX6_init_94 : decode cX6_init 94 = .ok (.aload_n 0, 1) := by decide +kernel
theorem dX6_init_95 : decode cX6_init 95 = .ok (.iconst 1, 1) := by decide +kernel
theorem dX6_init_96 : decode cX6_init 96 = .ok (.iload_n 1, 1) := by decide +kernel
theorem dX6_init_97 : decode cX6_init 97 = .ok (.ishl, 1) := by decide +kernel
theorem dX6_init_98 : decode cX6_init 98 = .ok (.iconst 1, 1) := by decide +kernel
theorem dX6_init_99 : decode cX6_init 99 = .ok (.iload_n 2, 1) := by decide +kernel
theorem dX6_init_100 : decode cX6_init 100 = .ok (.ishl, 1) := by decide +kernel
theorem dX6_init_101 : decode cX6_init 101 = .ok (.ior, 1) := by decide +kernel
theorem dX6_init_102 : decode cX6_init 102 = .ok (.invokevirtual 26, 3) := by decide +kernel
theorem dX6_init_105 : decode cX6_init 105 = .ok (.iload_n 2, 1) := by decide +kernel
theorem dX6_init_106 : decode cX6_init 106 = .ok (.iconst 1, 1) := by decide +kernel
theorem dX6_init_107 : decode cX6_init 107 = .ok (.iadd, 1) := by decide +kernel
theorem dX6_init_108 : decode cX6_init 108 = .ok (.istore_n 3, 1) := by decide +kernel
theorem dX6_init_109 : decode cX6_init 109 = .ok (.iload_n 3, 1) := by decide +kernel
theorem dX6_init_110 : decode cX6_init 110 = .ok (.bipush 23, 2) := by decide +kernel
theorem dX6_init_112 : decode cX6_init 112 = .ok (.if_icmp .ge 24, 3) := by decide +kernel
theorem dX6_init_115 : decode cX6_init 115 = .ok (.aload_n 0, 1) := by decide +kernel
theorem dX6_init_116 : decode cX6_init 116 = .ok (.iconst 1, 1) := by decide +kernel
theorem dX6_init_117 : decode cX6_init 117 = .ok (.iload_n 1, 1) := by decide +kernel
theorem dX6_init_118 : decode cX6_init 118 = .ok (.ishl, 1) := by decide +kernel
theorem dX6_init_119 : decode cX6_init 119 = .ok (.iconst 1, 1) := by decide +kernel
theorem dX6_init_120 : decode cX6_init 120 = .ok (.iload_n 2, 1) := by decide +kernel
theorem dX6_init_121 : decode cX6_init 121 = .ok (.ishl, 1) := by decide +kernel
theorem dX6_init_122 : decode cX6_init 122 = .ok (.ior, 1) := by decide +kernel
theorem dX6_init_123 : decode cX6_init 123 = .ok (.iconst 1, 1) := by decide +kernel
theorem dX6_init_124 : decode cX6_init 124 = .ok (.iload_n 3, 1) := by decide +kernel
theorem dX6_init_125 : decode cX6_init 125 = .ok (.ishl, 1) := by decide +kernel
theorem dX6_init_126 : decode cX6_init 126 = .ok (.ior, 1) := by decide +kernel
theorem dX6_init_127 : decode cX6_init 127 = .ok (.invokevirtual 26, 3) := by decide +kernel
theorem dX6_init_130 : decode cX6_init 130 = .ok (.iinc 3 1, 3) := by decide +kernel
theorem dX6_init_133 : decode cX6_init 133 = .ok (.goto (-24), 3) := by decide +kernel
theorem dX6_init_136 : decode cX6_init 136 = .ok (.iinc 2 1, 3) := by decide +kernel
theorem dX6_init_139 : decode cX6_init 139 = .ok (.goto (-51), 3) := by decide +kernel
theorem dX6_init_142 : decode cX6_init 142 = .ok (.iinc 1 1, 3) := by decide +kernel
theorem dX6_init_145 : decode cX6_init 145 = .ok (.goto (-74), 3) := by decide +kernel
theorem dX6_init_148 : decode cX6_init 148 = .ok (.return_, 1) := by decide +kernel
set_option maxRecDepth 20000 in
theorem ggX6_layErrors_X6_restOf : GoodIn wsX6_layErrors wsX6_restOf := goodIn_r _ [5] (by decide +kernel) (by decide +kernel)
set_option maxRecDepth 20000 in
theorem gX6_layErrors_X6_restOf : GoodIn wsX6_layErrors (va_wsS RX6 30 yX6_restOf wsX6_restOf) := goodIn_app (goodIn_of _ (by decide +kernel)) ggX6_layErrors_X6_restOf
theorem dX6_layErrors_0 : decode cX6_layErrors 0 = .ok (.aload_n 0, 1) := by decide +kernel
theorem dX6_layErrors_1 : decode cX6_layErrors 1 = .ok (.getfield 20, 3) := by decide +kernel
theorem dX6_layErrors_4 : decode cX6_layErrors 4 = .ok (.iload_n 1, 1) := by decide +kernel
theorem dX6_layErrors_5 : decode cX6_layErrors 5 = .ok (.invokestatic 30, 3) := by decide +kernel
theorem dX6_layErrors_8 : decode cX6_layErrors 8 = .ok (.iload_n 1, 1) := by decide +kernel
theorem dX6_layErrors_9 : decode cX6_layErrors 9 = .ok (.iastore, 1) := by decide +kernel
theorem dX6_layErrors_10 : decode cX6_layErrors 10 = .ok (.return_, 1) := by decide +kernel
theorem dX6_in_0 : decode cX6_in 0 = .ok (.iload_n 0, 1) := by decide +kernel
theorem dX6_in_1 : decode cX6_in 1 = .ok (.iload_n 1, 1) := by decide +kernel
theorem dX6_in_2 : decode cX6_in 2 = .ok (.if_icmp .lt 12, 3) := by decide +kernel
theorem dX6_in_5 : decode cX6_in 5 = .ok (.iload_n 0, 1) := by decide +kernel
theorem dX6_in_6 : decode cX6_in 6 = .ok (.iload_n 2, 1) := by decide +kernel
theorem dX6_in_7 : decode cX6_in 7 = .ok (.if_icmp .gt 7, 3) := by decide +kernel
theorem dX6_in_10 : decode cX6_in 10 = .ok (.iconst 1, 1) := by decide +kernel
theorem dX6_in_11 : decode cX6_in 11 = .ok (.goto 4, 3) := by decide +kernel
theorem dX6_in_14 : decode cX6_in 14 = .ok (.iconst 0, 1) := by decide +kernel
theorem dX6_in_15 : decode cX6_in 15 = .ok (.ireturn, 1) := by decide +kernel
set_option maxRecDepth 20000 in
theorem ggX6_isWord_X6_in : GoodIn wsX6_isWord wsX6_in := goodIn_r _ [5] (by decide +kernel) (by decide +kernel)
set_option maxRecDepth 20000 in
theorem gX6_isWord_X6_in : GoodIn wsX6_isWord (va_wsS RX6 35 yX6_in wsX6_in) := goodIn_app (goodIn_of _ (by decide +kernel)) ggX6_isWord_X6_in
theorem dX6_isWord_0 : decode cX6_isWord 0 = .ok (.iload_n 0, 1) := by decide +kernel
theorem dX6_isWord_1 : decode cX6_isWord 1 = .ok (.iconst 0, 1) := by decide +kernel
theorem dX6_isWord_2 : decode cX6_isWord 2 = .ok (.ldc 34, 2) := by decide +kernel
theorem dX6_isWord_4 : decode cX6_isWord 4 = .ok (.invokestatic 35, 3) := by decide +kernel
theorem dX6_isWord_7 : decode cX6_isWord 7 = .ok (.ireturn, 1) := by decide +kernel
set_option maxRecDepth 20000 in
theorem ggX6_isMessage_X6_in : GoodIn wsX6_isMessage wsX6_in := goodIn_r _ [4] (by decide +kernel) (by decide +kernel)
set_option maxRecDepth 20000 in
theorem gX6_isMessage_X6_in : GoodIn wsX6_isMessage (va_wsS RX6 35 yX6_in wsX6_in) := goodIn_app (goodIn_of _ (by decide +kernel)) ggX6_isMessage_X6_in
theorem dX6_isMessage_0 : decode cX6_isMessage 0 = .ok (.iload_n 0, 1) := by decide +kernel
theorem dX6_isMessage_1 : decode cX6_isMessage 1 = .ok (.iconst 0, 1) := by decide +kernel
theorem dX6_isMessage_2 : decode cX6_isMessage 2 = .ok (.sipush 4095, 3) := by decide +kernel
theorem dX6_isMessage_5 : decode cX6_isMessage 5 = .ok (.invokestatic 35, 3) := by decide +kernel
theorem dX6_isMessage_8 : decode cX6_isMessage 8 = .ok (.ireturn, 1) := by decide +kernel
theorem dX6_weight_0 : decode cX6_weight 0 = .ok (.iconst 0, 1) := by decide +kernel
theorem dX6_weight_1 : decode cX6_weight 1 = .ok (.istore_n 1, 1) := by decide +kernel
theorem dX6_weight_2 : decode cX6_weight 2 = .ok (.iconst 0, 1) := by decide +kernel
theorem dX6_weight_3 : decode cX6_weight 3 = .ok (.istore_n 2, 1) := by decide +kernel
theorem dX6_weight_4 : decode cX6_weight 4 = .ok (.iload_n 2, 1) := by decide +kernel
theorem dX6_weight_5 : decode cX6_weight 5 = .ok (.bipush 24, 2) := by decide +kernel
theorem dX6_weight_7 : decode cX6_weight 7 = .ok (.if_icmp .ge 17, 3) := by decide +kernel
theorem dX6_weight_10 : decode cX6_weight 10 = .ok (.iload_n 1, 1) := by decide +kernel
theorem dX6_weight_11 : decode cX6_weight 11 = .ok (.iload_n 0, 1) := by decide +kernel
theorem dX6_weight_12 : decode cX6_weight 12 = .ok (.iload_n 2, 1) := by decide +kernel
theorem dX6_weight_13 : decode cX6_weight 13 = .ok (.ishr, 1) := by decide +kernel
theorem dX6_weight_14 : decode cX6_weight 14 = .ok (.iconst 1, 1) := by decide +kernel
theorem dX6_weight_15 : decode cX6_weight 15 = .ok (.iand, 1) := by decide +kernel
theorem dX6_weight_16 : decode cX6_weight 16 = .ok (.iadd, 1) := by decide +kernel
theorem dX6_weight_17 : decode cX6_weight 17 = .ok (.istore_n 1, 1) := by decide +kernel
theorem dX6_weight_18 : decode cX6_weight 18 = .ok (.iinc 2 1, 3) := by decide +kernel
theorem dX6_weight_21 : decode cX6_weight 21 = .ok (.goto (-17), 3) := by decide +kernel
theorem dX6_weight_24 : decode cX6_weight 24 = .ok (.iload_n 1, 1) := by decide +kernel
theorem dX6_weight_25 : decode cX6_weight 25 = .ok (.ireturn, 1) := by decide +kernel
theorem dX6_restOf_0 : decode cX6_restOf 0 = .ok (.iload_n 0, 1) := by decide +kernel
theorem dX6_restOf_1 : decode cX6_restOf 1 = .ok (.istore_n 1, 1) := by decide +kernel
theorem dX6_restOf_2 : decode cX6_restOf 2 = .ok (.bipush 22, 2) := by decide +kernel
theorem dX6_restOf_4 : decode cX6_restOf 4 = .ok (.istore_n 2, 1) := by decide +kernel
theorem dX6_restOf_5 : decode cX6_restOf 5 = .ok (.iload_n 2, 1) := by decide +kernel
theorem dX6_restOf_6 : decode cX6_restOf 6 = .ok (.bipush 11, 2) := by decide +kernel
theorem dX6_restOf_8 : decode cX6_restOf 8 = .ok (.if_icmp .lt 33, 3) := by decide +kernel
theorem dX6_restOf_11 : decode cX6_restOf 11 = .ok (.iload_n 1, 1) := by decide +kernel
theorem dX6_restOf_12 : decode cX6_restOf 12 = .ok (.iload_n 1, 1) := by decide +kernel
theorem dX6_restOf_13 : decode cX6_restOf 13 = .ok (.iload_n 2, 1) := by decide +kernel
theorem dX6_restOf_14 : decode cX6_restOf 14 = .ok (.ishr, 1) := by decide +kernel
theorem dX6_restOf_15 : decode cX6_restOf 15 = .ok (.iconst 1, 1) := by decide +kernel
theorem dX6_restOf_16 : decode cX6_restOf 16 = .ok (.iand, 1) := by decide +kernel
theorem dX6_restOf_17 : decode cX6_restOf 17 = .ok (.iconst 1, 1) := by decide +kernel
theorem dX6_restOf_18 : decode cX6_restOf 18 = .ok (.if_icmp .ne 14, 3) := by decide +kernel
theorem dX6_restOf_21 : decode cX6_restOf 21 = .ok (.sipush 3189, 3) := by decide +kernel
theorem dX6_restOf_24 : decode cX6_restOf 24 = .ok (.iload_n 2, 1) := by decide +kernel
theorem dX6_restOf_25 : decode cX6_restOf 25 = .ok (.bipush 11, 2) := by decide +kernel
theorem dX6_restOf_27 : decode cX6_restOf 27 = .ok (.isub, 1) := by decide +kernel
theorem dX6_restOf_28 : decode cX6_restOf 28 = .ok (.ishl, 1) := by decide +kernel
theorem dX6_restOf_29 : decode cX6_restOf 29 = .ok (.goto 4, 3) := by decide +kernel
theorem dX6_restOf_32 : decode cX6_restOf 32 = .ok (.iconst 0, 1) := by decide +kernel
theorem dX6_restOf_33 : decode cX6_restOf 33 = .ok (.ixor, 1) := by decide +kernel
theorem dX6_restOf_34 : decode cX6_restOf 34 = .ok (.istore_n 1, 1) := by decide +kernel
theorem dX6_restOf_35 : decode cX6_restOf 35 = .ok (.iinc 2 (-1), 3) := by decide +kernel
theorem dX6_restOf_38 : decode cX6_restOf 38 = .ok (.goto (-33), 3) := by decide +kernel
theorem dX6_restOf_41 : decode cX6_restOf 41 = .ok (.iload_n 1, 1) := by decide +kernel
theorem dX6_restOf_42 : decode cX6_restOf 42 = .ok (.ireturn, 1) := by decide +kernel
set_option maxRecDepth 20000 in
theorem ggX6_madeOf_X6_restOf : GoodIn wsX6_madeOf wsX6_restOf := goodIn_r _ [4] (by decide +kernel) (by decide +kernel)
set_option maxRecDepth 20000 in
theorem gX6_madeOf_X6_restOf : GoodIn wsX6_madeOf (va_wsS RX6 30 yX6_restOf wsX6_restOf) := goodIn_app (goodIn_of _ (by decide +kernel)) ggX6_madeOf_X6_restOf
theorem dX6_madeOf_0 : decode cX6_madeOf 0 = .ok (.iload_n 0, 1) := by decide +kernel
theorem dX6_madeOf_1 : decode cX6_madeOf 1 = .ok (.bipush 11, 2) := by decide +kernel
theorem dX6_madeOf_3 : decode cX6_madeOf 3 = .ok (.ishl, 1) := by decide +kernel
theorem dX6_madeOf_4 : decode cX6_madeOf 4 = .ok (.istore_n 1, 1) := by decide +kernel
theorem dX6_madeOf_5 : decode cX6_madeOf 5 = .ok (.iload_n 1, 1) := by decide +kernel
theorem dX6_madeOf_6 : decode cX6_madeOf 6 = .ok (.iload_n 1, 1) := by decide +kernel
theorem dX6_madeOf_7 : decode cX6_madeOf 7 = .ok (.invokestatic 30, 3) := by decide +kernel
theorem dX6_madeOf_10 : decode cX6_madeOf 10 = .ok (.iadd, 1) := by decide +kernel
theorem dX6_madeOf_11 : decode cX6_madeOf 11 = .ok (.ireturn, 1) := by decide +kernel
set_option maxRecDepth 20000 in
theorem ggX6_nearest_X6_restOf : GoodIn wsX6_nearest wsX6_restOf := goodIn_r _ [5] (by decide +kernel) (by decide +kernel)
set_option maxRecDepth 20000 in
theorem gX6_nearest_X6_restOf : GoodIn wsX6_nearest (va_wsS RX6 30 yX6_restOf wsX6_restOf) := goodIn_app (goodIn_of _ (by decide +kernel)) ggX6_nearest_X6_restOf
theorem dX6_nearest_0 : decode cX6_nearest 0 = .ok (.iload_n 1, 1) := by decide +kernel
theorem dX6_nearest_1 : decode cX6_nearest 1 = .ok (.aload_n 0, 1) := by decide +kernel
theorem dX6_nearest_2 : decode cX6_nearest 2 = .ok (.getfield 20, 3) := by decide +kernel
theorem dX6_nearest_5 : decode cX6_nearest 5 = .ok (.iload_n 1, 1) := by decide +kernel
theorem dX6_nearest_6 : decode cX6_nearest 6 = .ok (.invokestatic 30, 3) := by decide +kernel
theorem dX6_nearest_9 : decode cX6_nearest 9 = .ok (.iaload, 1) := by decide +kernel
theorem dX6_nearest_10 : decode cX6_nearest 10 = .ok (.ixor, 1) := by decide +kernel
theorem dX6_nearest_11 : decode cX6_nearest 11 = .ok (.ireturn, 1) := by decide +kernel
set_option maxRecDepth 20000 in
theorem ggX6_made_X6_isMessage : GoodIn wsX6_made wsX6_isMessage := goodIn_r _ [4, 5, 6, 3, 7] (by decide +kernel) (by decide +kernel)
set_option maxRecDepth 20000 in
theorem gX6_made_X6_isMessage : GoodIn wsX6_made (va_wsS RX6 39 yX6_isMessage wsX6_isMessage) := goodIn_app (goodIn_of _ (by decide +kernel)) ggX6_made_X6_isMessage
set_option maxRecDepth 20000 in
theorem ggX6_made_X6_madeOf : GoodIn wsX6_made wsX6_madeOf := goodIn_r _ [10, 11, 12, 3, 13] (by decide +kernel) (by decide +kernel)
set_option maxRecDepth 20000 in
theorem gX6_made_X6_madeOf : GoodIn wsX6_made (va_wsS RX6 43 yX6_madeOf wsX6_madeOf) := goodIn_app (goodIn_of _ (by decide +kernel)) ggX6_made_X6_madeOf
theorem dX6_made_0 : decode cX6_made 0 = .ok (.iload_n 1, 1) := by decide +kernel
theorem dX6_made_1 : decode cX6_made 1 = .ok (.invokestatic 39, 3) := by decide +kernel
theorem dX6_made_4 : decode cX6_made 4 = .ok (.ifCond .eq 10, 3) := by decide +kernel
theorem dX6_made_7 : decode cX6_made 7 = .ok (.iload_n 1, 1) := by decide +kernel
theorem dX6_made_8 : decode cX6_made 8 = .ok (.invokestatic 43, 3) := by decide +kernel
theorem dX6_made_11 : decode cX6_made 11 = .ok (.goto 5, 3) := by decide +kernel
theorem dX6_made_14 : decode cX6_made 14 = .ok (.bipush (-2), 2) := by decide +kernel
theorem dX6_made_16 : decode cX6_made 16 = .ok (.ireturn, 1) := by decide +kernel
set_option maxRecDepth 20000 in
theorem ggX6_rest_X6_isWord : GoodIn wsX6_rest wsX6_isWord := goodIn_r _ [4, 5, 6, 7, 3, 8] (by decide +kernel) (by decide +kernel)
set_option maxRecDepth 20000 in
theorem gX6_rest_X6_isWord : GoodIn wsX6_rest (va_wsS RX6 46 yX6_isWord wsX6_isWord) := goodIn_app (goodIn_of _ (by decide +kernel)) ggX6_rest_X6_isWord
set_option maxRecDepth 20000 in
theorem ggX6_rest_X6_restOf : GoodIn wsX6_rest wsX6_restOf := goodIn_r _ [11] (by decide +kernel) (by decide +kernel)
set_option maxRecDepth 20000 in
theorem gX6_rest_X6_restOf : GoodIn wsX6_rest (va_wsS RX6 30 yX6_restOf wsX6_restOf) := goodIn_app (goodIn_of _ (by decide +kernel)) ggX6_rest_X6_restOf
theorem dX6_rest_0 : decode cX6_rest 0 = .ok (.iload_n 1, 1) := by decide +kernel
theorem dX6_rest_1 : decode cX6_rest 1 = .ok (.invokestatic 46, 3) := by decide +kernel
theorem dX6_rest_4 : decode cX6_rest 4 = .ok (.ifCond .eq 10, 3) := by decide +kernel
theorem dX6_rest_7 : decode cX6_rest 7 = .ok (.iload_n 1, 1) := by decide +kernel
theorem dX6_rest_8 : decode cX6_rest 8 = .ok (.invokestatic 30, 3) := by decide +kernel
theorem dX6_rest_11 : decode cX6_rest 11 = .ok (.goto 5, 3) := by decide +kernel
theorem dX6_rest_14 : decode cX6_rest 14 = .ok (.bipush (-2), 2) := by decide +kernel
theorem dX6_rest_16 : decode cX6_rest 16 = .ok (.ireturn, 1) := by decide +kernel
set_option maxRecDepth 20000 in
theorem ggX6_of_X6_isWord : GoodIn wsX6_of wsX6_isWord := goodIn_r _ [5, 6, 7, 8, 4, 9] (by decide +kernel) (by decide +kernel)
set_option maxRecDepth 20000 in
theorem gX6_of_X6_isWord : GoodIn wsX6_of (va_wsS RX6 46 yX6_isWord wsX6_isWord) := goodIn_app (goodIn_of _ (by decide +kernel)) ggX6_of_X6_isWord
set_option maxRecDepth 20000 in
theorem ggX6_of_X6_weight : GoodIn wsX6_of wsX6_weight := goodIn_r _ [12] (by decide +kernel) (by decide +kernel)
set_option maxRecDepth 20000 in
theorem gX6_of_X6_weight : GoodIn wsX6_of (va_wsS RX6 49 yX6_weight wsX6_weight) := goodIn_app (goodIn_of _ (by decide +kernel)) ggX6_of_X6_weight
set_option maxRecDepth 20000 in
theorem ggX6_of_X6_nearest : GoodIn wsX6_of wsX6_nearest := goodIn_r _ [16, 1, 17, 18, 4, 19, 20, 21, 22, 23, 24, 25, 26] (by decide +kernel) (by decide +kernel)
set_option maxRecDepth 20000 in
theorem gX6_of_X6_nearest : GoodIn wsX6_of (wsV RX6 52 RX6 yX6_nearest wsX6_nearest) := goodIn_app (goodIn_of _ (by decide +kernel)) ggX6_of_X6_nearest
set_option maxRecDepth 20000 in
theorem ggX6_of_X6_restOf : GoodIn wsX6_of wsX6_restOf := goodIn_r _ [19] (by decide +kernel) (by decide +kernel)
set_option maxRecDepth 20000 in
theorem gX6_of_X6_restOf : GoodIn wsX6_of (va_wsS RX6 30 yX6_restOf wsX6_restOf) := goodIn_app (goodIn_of _ (by decide +kernel)) ggX6_of_X6_restOf
theorem dX6_of_0 : decode cX6_of 0 = .ok (.iload_n 1, 1) := by decide +kernel
theorem dX6_of_1 : decode cX6_of 1 = .ok (.invokestatic 46, 3) := by decide +kernel
theorem dX6_of_4 : decode cX6_of 4 = .ok (.ifCond .ne 6, 3) := by decide +kernel
theorem dX6_of_7 : decode cX6_of 7 = .ok (.bipush (-2), 2) := by decide +kernel
theorem dX6_of_9 : decode cX6_of 9 = .ok (.ireturn, 1) := by decide +kernel
theorem dX6_of_10 : decode cX6_of 10 = .ok (.iload_n 2, 1) := by decide +kernel
theorem dX6_of_11 : decode cX6_of 11 = .ok (.tableswitch 62 0 3 #[29, 34, 40, 53], 29) := by decide +kernel
theorem dX6_of_40 : decode cX6_of 40 = .ok (.iload_n 1, 1) := by decide +kernel
theorem dX6_of_41 : decode cX6_of 41 = .ok (.invokestatic 49, 3) := by decide +kernel
theorem dX6_of_44 : decode cX6_of 44 = .ok (.ireturn, 1) := by decide +kernel
theorem dX6_of_45 : decode cX6_of 45 = .ok (.aload_n 0, 1) := by decide +kernel
theorem dX6_of_46 : decode cX6_of 46 = .ok (.iload_n 1, 1) := by decide +kernel
theorem dX6_of_47 : decode cX6_of 47 = .ok (.invokevirtual 52, 3) := by decide +kernel
theorem dX6_of_50 : decode cX6_of 50 = .ok (.ireturn, 1) := by decide +kernel
theorem dX6_of_51 : decode cX6_of 51 = .ok (.aload_n 0, 1) := by decide +kernel
theorem dX6_of_52 : decode cX6_of 52 = .ok (.getfield 20, 3) := by decide +kernel
theorem dX6_of_55 : decode cX6_of 55 = .ok (.iload_n 1, 1) := by decide +kernel
theorem dX6_of_56 : decode cX6_of 56 = .ok (.invokestatic 30, 3) := by decide +kernel
theorem dX6_of_59 : decode cX6_of 59 = .ok (.iaload, 1) := by decide +kernel
theorem dX6_of_60 : decode cX6_of 60 = .ok (.invokestatic 49, 3) := by decide +kernel
theorem dX6_of_63 : decode cX6_of 63 = .ok (.ireturn, 1) := by decide +kernel
theorem dX6_of_64 : decode cX6_of 64 = .ok (.aload_n 0, 1) := by decide +kernel
theorem dX6_of_65 : decode cX6_of 65 = .ok (.iload_n 1, 1) := by decide +kernel
theorem dX6_of_66 : decode cX6_of 66 = .ok (.invokevirtual 52, 3) := by decide +kernel
theorem dX6_of_69 : decode cX6_of 69 = .ok (.bipush 11, 2) := by decide +kernel
theorem dX6_of_71 : decode cX6_of 71 = .ok (.ishr, 1) := by decide +kernel
theorem dX6_of_72 : decode cX6_of 72 = .ok (.ireturn, 1) := by decide +kernel
theorem dX6_of_73 : decode cX6_of 73 = .ok (.bipush (-2), 2) := by decide +kernel
theorem dX6_of_75 : decode cX6_of 75 = .ok (.ireturn, 1) := by decide +kernel
set_option maxRecDepth 20000 in
theorem ggX6_around_X6_isWord : GoodIn wsX6_around wsX6_isWord := goodIn_r _ [4, 5, 6, 7, 3, 8] (by decide +kernel) (by decide +kernel)
set_option maxRecDepth 20000 in
theorem gX6_around_X6_isWord : GoodIn wsX6_around (va_wsS RX6 46 yX6_isWord wsX6_isWord) := goodIn_app (goodIn_of _ (by decide +kernel)) ggX6_around_X6_isWord
set_option maxRecDepth 20000 in
theorem ggX6_around_X6_in : GoodIn wsX6_around wsX6_in := goodIn_r _ [8] (by decide +kernel) (by decide +kernel)
set_option maxRecDepth 20000 in
theorem gX6_around_X6_in : GoodIn wsX6_around (va_wsS RX6 35 yX6_in wsX6_in) := goodIn_app (goodIn_of _ (by decide +kernel)) ggX6_around_X6_in
set_option maxRecDepth 20000 in
theorem ggX6_around_X6_madeOf : GoodIn wsX6_around wsX6_madeOf := goodIn_r _ [11, 12, 13, 3, 14] (by decide +kernel) (by decide +kernel)
set_option maxRecDepth 20000 in
theorem gX6_around_X6_madeOf : GoodIn wsX6_around (va_wsS RX6 43 yX6_madeOf wsX6_madeOf) := goodIn_app (goodIn_of _ (by decide +kernel)) ggX6_around_X6_madeOf
set_option maxRecDepth 20000 in
theorem ggX6_around_X6_weight : GoodIn wsX6_around wsX6_weight := goodIn_r _ [17] (by decide +kernel) (by decide +kernel)
set_option maxRecDepth 20000 in
theorem gX6_around_X6_weight : GoodIn wsX6_around (va_wsS RX6 49 yX6_weight wsX6_weight) := goodIn_app (goodIn_of _ (by decide +kernel)) ggX6_around_X6_weight
theorem dX6_around_0 : decode cX6_around 0 = .ok (.iload_n 1, 1) := by decide +kernel
theorem dX6_around_1 : decode cX6_around 1 = .ok (.invokestatic 46, 3) := by decide +kernel
theorem dX6_around_4 : decode cX6_around 4 = .ok (.ifCond .eq 13, 3) := by decide +kernel
theorem dX6_around_7 : decode cX6_around 7 = .ok (.iload_n 2, 1) := by decide +kernel
