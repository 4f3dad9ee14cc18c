theorem dX0_remainder_0 : decode cX0_remainder 0 = .ok (.iload_n 0, 1) := by decide +kernel
theorem dX0_remainder_1 : decode cX0_remainder 1 = .ok (.istore_n 1, 1) := by decide +kernel
theorem dX0_remainder_2 : decode cX0_remainder 2 = .ok (.bipush 22, 2) := by decide +kernel
theorem dX0_remainder_4 : decode cX0_remainder 4 = .ok (.istore_n 2, 1) := by decide +kernel
theorem dX0_remainder_5 : decode cX0_remainder 5 = .ok (.iload_n 2, 1) := by decide +kernel
theorem dX0_remainder_6 : decode cX0_remainder 6 = .ok (.bipush 11, 2) := by decide +kernel
theorem dX0_remainder_8 : decode cX0_remainder 8 = .ok (.if_icmp .lt 29, 3) := by decide +kernel
theorem dX0_remainder_11 : decode cX0_remainder 11 = .ok (.iload_n 1, 1) := by decide +kernel
theorem dX0_remainder_12 : decode cX0_remainder 12 = .ok (.iload_n 2, 1) := by decide +kernel
theorem dX0_remainder_13 : decode cX0_remainder 13 = .ok (.iushr, 1) := by decide +kernel
theorem dX0_remainder_14 : decode cX0_remainder 14 = .ok (.iconst 1, 1) := by decide +kernel
theorem dX0_remainder_15 : decode cX0_remainder 15 = .ok (.iand, 1) := by decide +kernel
theorem dX0_remainder_16 : decode cX0_remainder 16 = .ok (.iconst 1, 1) := by decide +kernel
theorem dX0_remainder_17 : decode cX0_remainder 17 = .ok (.if_icmp .ne 14, 3) := by decide +kernel
theorem dX0_remainder_20 : decode cX0_remainder 20 = .ok (.iload_n 1, 1) := by decide +kernel
theorem dX0_remainder_21 : decode cX0_remainder 21 = .ok (.sipush 3189, 3) := by decide +kernel
theorem dX0_remainder_24 : decode cX0_remainder 24 = .ok (.iload_n 2, 1) := by decide +kernel
theorem dX0_remainder_25 : decode cX0_remainder 25 = .ok (.bipush 11, 2) := by decide +kernel
theorem dX0_remainder_27 : decode cX0_remainder 27 = .ok (.isub, 1) := by decide +kernel
theorem dX0_remainder_28 : decode cX0_remainder 28 = .ok (.ishl, 1) := by decide +kernel
theorem dX0_remainder_29 : decode cX0_remainder 29 = .ok (.ixor, 1) := by decide +kernel
theorem dX0_remainder_30 : decode cX0_remainder 30 = .ok (.istore_n 1, 1) := by decide +kernel
theorem dX0_remainder_31 : decode cX0_remainder 31 = .ok (.iinc 2 (-1), 3) := by decide +kernel
theorem dX0_remainder_34 : decode cX0_remainder 34 = .ok (.goto (-29), 3) := by decide +kernel
theorem dX0_remainder_37 : decode cX0_remainder 37 = .ok (.iload_n 1, 1) := by decide +kernel
theorem dX0_remainder_38 : decode cX0_remainder 38 = .ok (.ireturn, 1) := by decide +kernel
set_option maxRecDepth 20000 in
theorem ggX0_coded_X0_remainder : GoodIn wsX0_coded wsX0_remainder := goodIn_r _ [4] (by decide +kernel) (by decide +kernel)
set_option maxRecDepth 20000 in
theorem gX0_coded_X0_remainder : GoodIn wsX0_coded (va_wsS RX0 9 yX0_remainder wsX0_remainder) := goodIn_app (goodIn_of _ (by decide +kernel)) ggX0_coded_X0_remainder
theorem dX0_coded_0 : decode cX0_coded 0 = .ok (.iload_n 0, 1) := by decide +kernel
theorem dX0_coded_1 : decode cX0_coded 1 = .ok (.bipush 11, 2) := by decide +kernel
theorem dX0_coded_3 : decode cX0_coded 3 = .ok (.ishl, 1) := by decide +kernel
theorem dX0_coded_4 : decode cX0_coded 4 = .ok (.istore_n 1, 1) := by decide +kernel
theorem dX0_coded_5 : decode cX0_coded 5 = .ok (.iload_n 1, 1) := by decide +kernel
theorem dX0_coded_6 : decode cX0_coded 6 = .ok (.iload_n 1, 1) := by decide +kernel
theorem dX0_coded_7 : decode cX0_coded 7 = .ok (.invokestatic 9, 3) := by decide +kernel
theorem dX0_coded_10 : decode cX0_coded 10 = .ok (.ior, 1) := by decide +kernel
theorem dX0_coded_11 : decode cX0_coded 11 = .ok (.ireturn, 1) := by decide +kernel
theorem dX0_message_0 : decode cX0_message 0 = .ok (.iload_n 0, 1) := by decide +kernel
theorem dX0_message_1 : decode cX0_message 1 = .ok (.bipush 11, 2) := by decide +kernel
theorem dX0_message_3 : decode cX0_message 3 = .ok (.iushr, 1) := by decide +kernel
theorem dX0_message_4 : decode cX0_message 4 = .ok (.ireturn, 1) := by decide +kernel
set_option maxRecDepth 20000 in
theorem ggX0_widen_J6_bitCount_0f7a4 : GoodIn wsX0_widen wsJ6_bitCount_0f7a4 := goodIn_r _ [4, 5, 6, 7] (by decide +kernel) (by decide +kernel)
set_option maxRecDepth 20000 in
theorem gX0_widen_J6_bitCount_0f7a4 : GoodIn wsX0_widen (va_wsS RX0 15 yJ6_bitCount_0f7a4 wsJ6_bitCount_0f7a4) := goodIn_app (goodIn_of _ (by decide +kernel)) ggX0_widen_J6_bitCount_0f7a4
theorem dX0_widen_0 : decode cX0_widen 0 = .ok (.iload_n 0, 1) := by decide +kernel
theorem dX0_widen_1 : decode cX0_widen 1 = .ok (.iload_n 0, 1) := by decide +kernel
theorem dX0_widen_2 : decode cX0_widen 2 = .ok (.invokestatic 15, 3) := by decide +kernel
theorem dX0_widen_5 : decode cX0_widen 5 = .ok (.iconst 1, 1) := by decide +kernel
theorem dX0_widen_6 : decode cX0_widen 6 = .ok (.iand, 1) := by decide +kernel
theorem dX0_widen_7 : decode cX0_widen 7 = .ok (.bipush 23, 2) := by decide +kernel
theorem dX0_widen_9 : decode cX0_widen 9 = .ok (.ishl, 1) := by decide +kernel
theorem dX0_widen_10 : decode cX0_widen 10 = .ok (.ior, 1) := by decide +kernel
theorem dX0_widen_11 : decode cX0_widen 11 = .ok (.ireturn, 1) := by decide +kernel
theorem dX0_turn_0 : decode cX0_turn 0 = .ok (.iload_n 0, 1) := by decide +kernel
theorem dX0_turn_1 : decode cX0_turn 1 = .ok (.iload_n 1, 1) := by decide +kernel
theorem dX0_turn_2 : decode cX0_turn 2 = .ok (.ishl, 1) := by decide +kernel
theorem dX0_turn_3 : decode cX0_turn 3 = .ok (.iload_n 0, 1) := by decide +kernel
theorem dX0_turn_4 : decode cX0_turn 4 = .ok (.bipush 23, 2) := by decide +kernel
theorem dX0_turn_6 : decode cX0_turn 6 = .ok (.iload_n 1, 1) := by decide +kernel
theorem dX0_turn_7 : decode cX0_turn 7 = .ok (.isub, 1) := by decide +kernel
theorem dX0_turn_8 : decode cX0_turn 8 = .ok (.iushr, 1) := by decide +kernel
theorem dX0_turn_9 : decode cX0_turn 9 = .ok (.ior, 1) := by decide +kernel
theorem dX0_turn_10 : decode cX0_turn 10 = .ok (.ldc 20, 2) := by decide +kernel
theorem dX0_turn_12 : decode cX0_turn 12 = .ok (.iand, 1) := by decide +kernel
theorem dX0_turn_13 : decode cX0_turn 13 = .ok (.ireturn, 1) := by decide +kernel
set_option maxRecDepth 20000 in
theorem ggX0_turnBack_X0_turn : GoodIn wsX0_turnBack wsX0_turn := goodIn_r _ [4, 5] (by decide +kernel) (by decide +kernel)
set_option maxRecDepth 20000 in
theorem gX0_turnBack_X0_turn : GoodIn wsX0_turnBack (va_wsS RX0 21 yX0_turn wsX0_turn) := goodIn_app (goodIn_of _ (by decide +kernel)) ggX0_turnBack_X0_turn
theorem dX0_turnBack_0 : decode cX0_turnBack 0 = .ok (.iload_n 0, 1) := by decide +kernel
theorem dX0_turnBack_1 : decode cX0_turnBack 1 = .ok (.bipush 23, 2) := by decide +kernel
theorem dX0_turnBack_3 : decode cX0_turnBack 3 = .ok (.iload_n 1, 1) := by decide +kernel
theorem dX0_turnBack_4 : decode cX0_turnBack 4 = .ok (.isub, 1) := by decide +kernel
theorem dX0_turnBack_5 : decode cX0_turnBack 5 = .ok (.invokestatic 21, 3) := by decide +kernel
theorem dX0_turnBack_8 : decode cX0_turnBack 8 = .ok (.ireturn, 1) := by decide +kernel
set_option maxRecDepth 20000 in
theorem ggX0_trapErrors_X0_remainder : GoodIn wsX0_trapErrors wsX0_remainder := goodIn_r _ [6] (by decide +kernel) (by decide +kernel)
set_option maxRecDepth 20000 in
theorem gX0_trapErrors_X0_remainder : GoodIn wsX0_trapErrors (va_wsS RX0 9 yX0_remainder wsX0_remainder) := goodIn_app (goodIn_of _ (by decide +kernel)) ggX0_trapErrors_X0_remainder
set_option maxRecDepth 20000 in
theorem ggX0_trapErrors_J6_bitCount_0f7a4 : GoodIn wsX0_trapErrors wsJ6_bitCount_0f7a4 := goodIn_r _ [10, 11, 12, 13] (by decide +kernel) (by decide +kernel)
set_option maxRecDepth 20000 in
theorem gX0_trapErrors_J6_bitCount_0f7a4 : GoodIn wsX0_trapErrors (va_wsS RX0 15 yJ6_bitCount_0f7a4 wsJ6_bitCount_0f7a4) := goodIn_app (goodIn_of _ (by decide +kernel)) ggX0_trapErrors_J6_bitCount_0f7a4
theorem dX0_trapErrors_0 : decode cX0_trapErrors 0 = .ok (.iload_n 1, 1) := by decide +kernel
theorem dX0_trapErrors_1 : decode cX0_trapErrors 1 = .ok (.ifCond .ne 7, 3) := by decide +kernel
theorem dX0_trapErrors_4 : decode cX0_trapErrors 4 = .ok (.iconst 0, 1) := by decide +kernel
theorem dX0_trapErrors_5 : decode cX0_trapErrors 5 = .ok (.goto 15, 3) := by decide +kernel
theorem dX0_trapErrors_8 : decode cX0_trapErrors 8 = .ok (.iload_n 1, 1) := by decide +kernel
theorem dX0_trapErrors_9 : decode cX0_trapErrors 9 = .ok (.iconst 1, 1) := by decide +kernel
theorem dX0_trapErrors_10 : decode cX0_trapErrors 10 = .ok (.if_icmp .ne 8, 3) := by decide +kernel
theorem dX0_trapErrors_13 : decode cX0_trapErrors 13 = .ok (.ldc 25, 2) := by decide +kernel
theorem dX0_trapErrors_15 : decode cX0_trapErrors 15 = .ok (.goto 5, 3) := by decide +kernel
theorem dX0_trapErrors_18 : decode cX0_trapErrors 18 = .ok (.ldc 26, 2) := by decide +kernel
theorem dX0_trapErrors_20 : decode cX0_trapErrors 20 = .ok (.istore_n 2, 1) := by decide +kernel
theorem dX0_trapErrors_21 : decode cX0_trapErrors 21 = .ok (.iload_n 0, 1) := by decide +kernel
theorem dX0_trapErrors_22 : decode cX0_trapErrors 22 = .ok (.iload_n 2, 1) := by decide +kernel
theorem dX0_trapErrors_23 : decode cX0_trapErrors 23 = .ok (.ixor, 1) := by decide +kernel
theorem dX0_trapErrors_24 : decode cX0_trapErrors 24 = .ok (.invokestatic 9, 3) := by decide +kernel
theorem dX0_trapErrors_27 : decode cX0_trapErrors 27 = .ok (.iload_n 2, 1) := by decide +kernel
theorem dX0_trapErrors_28 : decode cX0_trapErrors 28 = .ok (.ior, 1) := by decide +kernel
theorem dX0_trapErrors_29 : decode cX0_trapErrors 29 = .ok (.istore_n 3, 1) := by decide +kernel
theorem dX0_trapErrors_30 : decode cX0_trapErrors 30 = .ok (.iload_n 3, 1) := by decide +kernel
theorem dX0_trapErrors_31 : decode cX0_trapErrors 31 = .ok (.invokestatic 15, 3) := by decide +kernel
theorem dX0_trapErrors_34 : decode cX0_trapErrors 34 = .ok (.iconst 3, 1) := by decide +kernel
theorem dX0_trapErrors_35 : decode cX0_trapErrors 35 = .ok (.if_icmp .gt 7, 3) := by decide +kernel
theorem dX0_trapErrors_38 : decode cX0_trapErrors 38 = .ok (.iload_n 3, 1) := by decide +kernel
theorem dX0_trapErrors_39 : decode cX0_trapErrors 39 = .ok (.goto 5, 3) := by decide +kernel
theorem dX0_trapErrors_42 : decode cX0_trapErrors 42 = .ok (.bipush (-6), 2) := by decide +kernel
theorem dX0_trapErrors_44 : decode cX0_trapErrors 44 = .ok (.ireturn, 1) := by decide +kernel
theorem dX0_target_0 : decode cX0_target 0 = .ok (.iload_n 1, 1) := by decide +kernel
theorem dX0_target_1 : decode cX0_target 1 = .ok (.iload_n 0, 1) := by decide +kernel
theorem dX0_target_2 : decode cX0_target 2 = .ok (.imul, 1) := by decide +kernel
theorem dX0_target_3 : decode cX0_target 3 = .ok (.iload_n 2, 1) := by decide +kernel
theorem dX0_target_4 : decode cX0_target 4 = .ok (.iadd, 1) := by decide +kernel
theorem dX0_target_5 : decode cX0_target 5 = .ok (.bipush 23, 2) := by decide +kernel
theorem dX0_target_7 : decode cX0_target 7 = .ok (.irem, 1) := by decide +kernel
theorem dX0_target_8 : decode cX0_target 8 = .ok (.ireturn, 1) := by decide +kernel
set_option maxRecDepth 20000 in
theorem ggX0_carry_X0_target : GoodIn wsX0_carry wsX0_target := goodIn_r _ [4] (by decide +kernel) (by decide +kernel)
set_option maxRecDepth 20000 in
theorem gX0_carry_X0_target : GoodIn wsX0_carry (va_wsS RX0 27 yX0_target wsX0_target) := goodIn_app (goodIn_of _ (by decide +kernel)) ggX0_carry_X0_target
theorem dX0_carry_0 : decode cX0_carry 0 = .ok (.iconst 0, 1) := by decide +kernel
theorem dX0_carry_1 : decode cX0_carry 1 = .ok (.istore_n 3, 1) := by decide +kernel
theorem dX0_carry_2 : decode cX0_carry 2 = .ok (.iconst 0, 1) := by decide +kernel
theorem dX0_carry_3 : decode cX0_carry 3 = .ok (.istore 4, 2) := by decide +kernel
theorem dX0_carry_5 : decode cX0_carry 5 = .ok (.iload 4, 2) := by decide +kernel
theorem dX0_carry_7 : decode cX0_carry 7 = .ok (.bipush 23, 2) := by decide +kernel
theorem dX0_carry_9 : decode cX0_carry 9 = .ok (.if_icmp .ge 26, 3) := by decide +kernel
theorem dX0_carry_12 : decode cX0_carry 12 = .ok (.iload_n 3, 1) := by decide +kernel
theorem dX0_carry_13 : decode cX0_carry 13 = .ok (.iload_n 0, 1) := by decide +kernel
theorem dX0_carry_14 : decode cX0_carry 14 = .ok (.iload 4, 2) := by decide +kernel
theorem dX0_carry_16 : decode cX0_carry 16 = .ok (.iushr, 1) := by decide +kernel
theorem dX0_carry_17 : decode cX0_carry 17 = .ok (.iconst 1, 1) := by decide +kernel
theorem dX0_carry_18 : decode cX0_carry 18 = .ok (.iand, 1) := by decide +kernel
theorem dX0_carry_19 : decode cX0_carry 19 = .ok (.iload 4, 2) := by decide +kernel
theorem dX0_carry_21 : decode cX0_carry 21 = .ok (.iload_n 1, 1) := by decide +kernel
theorem dX0_carry_22 : decode cX0_carry 22 = .ok (.iload_n 2, 1) := by decide +kernel
theorem dX0_carry_23 : decode cX0_carry 23 = .ok (.invokestatic 27, 3) := by decide +kernel
theorem dX0_carry_26 : decode cX0_carry 26 = .ok (.ishl, 1) := by decide +kernel
theorem dX0_carry_27 : decode cX0_carry 27 = .ok (.ior, 1) := by decide +kernel
theorem dX0_carry_28 : decode cX0_carry 28 = .ok (.istore_n 3, 1) := by decide +kernel
theorem dX0_carry_29 : decode cX0_carry 29 = .ok (.iinc 4 1, 3) := by decide +kernel
theorem dX0_carry_32 : decode cX0_carry 32 = .ok (.goto (-27), 3) := by decide +kernel
theorem dX0_carry_35 : decode cX0_carry 35 = .ok (.iload_n 3, 1) := by decide +kernel
theorem dX0_carry_36 : decode cX0_carry 36 = .ok (.ireturn, 1) := by decide +kernel
set_option maxRecDepth 20000 in
theorem ggX0_carryBack_X0_target : GoodIn wsX0_carryBack wsX0_target := goodIn_r _ [4] (by decide +kernel) (by decide +kernel)
set_option maxRecDepth 20000 in
theorem gX0_carryBack_X0_target : GoodIn wsX0_carryBack (va_wsS RX0 27 yX0_target wsX0_target) := goodIn_app (goodIn_of _ (by decide +kernel)) ggX0_carryBack_X0_target
theorem dX0_carryBack_0 : decode cX0_carryBack 0 = .ok (.iconst 0, 1) := by decide +kernel
theorem dX0_carryBack_1 : decode cX0_carryBack 1 = .ok (.istore_n 3, 1) := by decide +kernel
theorem dX0_carryBack_2 : decode cX0_carryBack 2 = .ok (.iconst 0, 1) := by decide +kernel
theorem dX0_carryBack_3 : decode cX0_carryBack 3 = .ok (.istore 4, 2) := by decide +kernel
theorem dX0_carryBack_5 : decode cX0_carryBack 5 = .ok (.iload 4, 2) := by decide +kernel
theorem dX0_carryBack_7 : decode cX0_carryBack 7 = .ok (.bipush 23, 2) := by decide +kernel
theorem dX0_carryBack_9 : decode cX0_carryBack 9 = .ok (.if_icmp .ge 26, 3) := by decide +kernel
theorem dX0_carryBack_12 : decode cX0_carryBack 12 = .ok (.iload_n 3, 1) := by decide +kernel
theorem dX0_carryBack_13 : decode cX0_carryBack 13 = .ok (.iload_n 0, 1) := by decide +kernel
theorem dX0_carryBack_14 : decode cX0_carryBack 14 = .ok (.iload 4, 2) := by decide +kernel
theorem dX0_carryBack_16 : decode cX0_carryBack 16 = .ok (.iload_n 1, 1) := by decide +kernel
theorem dX0_carryBack_17 : decode cX0_carryBack 17 = .ok (.iload_n 2, 1) := by decide +kernel
theorem dX0_carryBack_18 : decode cX0_carryBack 18 = .ok (.invokestatic 27, 3) := by decide +kernel
theorem dX0_carryBack_21 : decode cX0_carryBack 21 = .ok (.iushr, 1) := by decide +kernel
theorem dX0_carryBack_22 : decode cX0_carryBack 22 = .ok (.iconst 1, 1) := by decide +kernel
theorem dX0_carryBack_23 : decode cX0_carryBack 23 = .ok (.iand, 1) := by decide +kernel
theorem dX0_carryBack_24 : decode cX0_carryBack 24 = .ok (.iload 4, 2) := by decide +kernel
theorem dX0_carryBack_26 : decode cX0_carryBack 26 = .ok (.ishl, 1) := by decide +kernel
theorem dX0_carryBack_27 : decode cX0_carryBack 27 = .ok (.ior, 1) := by decide +kernel
theorem dX0_carryBack_28 : decode cX0_carryBack 28 = .ok (.istore_n 3, 1) := by decide +kernel
theorem dX0_carryBack_29 : decode cX0_carryBack 29 = .ok (.iinc 4 1, 3) := by decide +kernel
theorem dX0_carryBack_32 : decode cX0_carryBack 32 = .ok (.goto (-27), 3) := by decide +kernel
theorem dX0_carryBack_35 : decode cX0_carryBack 35 = .ok (.iload_n 3, 1) := by decide +kernel
theorem dX0_carryBack_36 : decode cX0_carryBack 36 = .ok (.ireturn, 1) := by decide +kernel
set_option maxRecDepth 20000 in
theorem ggX0_staysInCode_X0_carry : GoodIn wsX0_staysInCode wsX0_carry := goodIn_r _ [4, 5, 6, 3, 7] (by decide +kernel) (by decide +kernel)
set_option maxRecDepth 20000 in
theorem gX0_staysInCode_X0_carry : GoodIn wsX0_staysInCode (va_wsS RX0 31 yX0_carry wsX0_carry) := goodIn_app (goodIn_of _ (by decide +kernel)) ggX0_staysInCode_X0_carry
set_option maxRecDepth 20000 in
theorem ggX0_staysInCode_X0_remainder : GoodIn wsX0_staysInCode wsX0_remainder := goodIn_r _ [10] (by decide +kernel) (by decide +kernel)
set_option maxRecDepth 20000 in
theorem gX0_staysInCode_X0_remainder : GoodIn wsX0_staysInCode (va_wsS RX0 9 yX0_remainder wsX0_remainder) := goodIn_app (goodIn_of _ (by decide +kernel)) ggX0_staysInCode_X0_remainder
theorem dX0_staysInCode_0 : decode cX0_staysInCode 0 = .ok (.iconst 0, 1) := by decide +kernel
theorem dX0_staysInCode_1 : decode cX0_staysInCode 1 = .ok (.istore_n 2, 1) := by decide +kernel
theorem dX0_staysInCode_2 : decode cX0_staysInCode 2 = .ok (.iload_n 2, 1) := by decide +kernel
theorem dX0_staysInCode_3 : decode cX0_staysInCode 3 = .ok (.bipush 12, 2) := by decide +kernel
theorem dX0_staysInCode_5 : decode cX0_staysInCode 5 = .ok (.if_icmp .ge 27, 3) := by decide +kernel
theorem dX0_staysInCode_8 : decode cX0_staysInCode 8 = .ok (.sipush 3189, 3) := by decide +kernel
theorem dX0_staysInCode_11 : decode cX0_staysInCode 11 = .ok (.iload_n 2, 1) := by decide +kernel
theorem dX0_staysInCode_12 : decode cX0_staysInCode 12 = .ok (.ishl, 1) := by decide +kernel
theorem dX0_staysInCode_13 : decode cX0_staysInCode 13 = .ok (.iload_n 0, 1) := by decide +kernel
theorem dX0_staysInCode_14 : decode cX0_staysInCode 14 = .ok (.iload_n 1, 1) := by decide +kernel
theorem dX0_staysInCode_15 : decode cX0_staysInCode 15 = .ok (.invokestatic 31, 3) := by decide +kernel
theorem dX0_staysInCode_18 : decode cX0_staysInCode 18 = .ok (.invokestatic 9, 3) := by decide +kernel
theorem dX0_staysInCode_21 : decode cX0_staysInCode 21 = .ok (.ifCond .eq 5, 3) := by decide +kernel
theorem dX0_staysInCode_24 : decode cX0_staysInCode 24 = .ok (.iconst 0, 1) := by decide +kernel
theorem dX0_staysInCode_25 : decode cX0_staysInCode 25 = .ok (.ireturn, 1) := by decide +kernel
theorem dX0_staysInCode_26 : decode cX0_staysInCode 26 = .ok (.iinc 2 1, 3) := by decide +kernel
theorem dX0_staysInCode_29 : decode cX0_staysInCode 29 = .ok (.goto (-27), 3) := by decide +kernel
theorem dX0_staysInCode_32 : decode cX0_staysInCode 32 = .ok (.iconst 1, 1) := by decide +kernel
theorem dX0_staysInCode_33 : decode cX0_staysInCode 33 = .ok (.ireturn, 1) := by decide +kernel
set_option maxRecDepth 20000 in
theorem ggX1_init_X3_init : GoodIn wsX1_init wsX3_init := goodIn_r _ [13, 14, 2, 3, 15, 16, 17, 18, 19, 24, 25, 26, 27] (by decide +kernel) (by decide +kernel)
set_option maxRecDepth 20000 in
theorem gX1_init_X3_init_n9 : GoodIn wsX1_init (wsX3_init) := ggX1_init_X3_init
set_option maxRecDepth 20000 in
theorem ggX1_init_X4_init : GoodIn wsX1_init wsX4_init := goodIn_r _ [21, 22, 2, 3, 16, 23, 30] (by decide +kernel) (by decide +kernel)
set_option maxRecDepth 20000 in
theorem gX1_init_X4_init_n18 : GoodIn wsX1_init (wsX4_init) := ggX1_init_X4_init
theorem dX1_init_0 : decode cX1_init 0 = .ok (.aload_n 0, 1) := by decide +kernel
theorem dX1_init_1 : decode cX1_init 1 = .ok (.invokespecial 1, 3) := by decide +kernel
theorem dX1_init_4 : decode cX1_init 4 = .ok (.aload_n 0, 1) := by decide +kernel
theorem dX1_init_5 : decode cX1_init 5 = .ok (.new 7, 3) := by decide +kernel
theorem dX1_init_8 : decode cX1_init 8 = .ok (.dup, 1) := by decide +kernel
theorem dX1_init_9 : decode cX1_init 9 = .ok (.invokespecial 9, 3) := by decide +kernel
theorem dX1_init_12 : decode cX1_init 12 = .ok (.putfield 10, 3) := by decide +kernel
theorem dX1_init_15 : decode cX1_init 15 = .ok (.aload_n 0, 1) := by decide +kernel
theorem dX1_init_16 : decode cX1_init 16 = .ok (.new 16, 3) := by decide +kernel
theorem dX1_init_19 : decode cX1_init 19 = .ok (.dup, 1) := by decide +kernel
theorem dX1_init_20 : decode cX1_init 20 = .ok (.invokespecial 18, 3) := by decide +kernel
theorem dX1_init_23 : decode cX1_init 23 = .ok (.putfield 19, 3) := by decide +kernel
theorem dX1_init_26 : decode cX1_init 26 = .ok (.return_, 1) := by decide +kernel
set_option maxRecDepth 20000 in
theorem ggX1_copyFrom_X3_copyFrom : GoodIn wsX1_copyFrom wsX3_copyFrom := goodIn_r _ [6, 7, 8, 9, 10, 18, 19, 20, 21] (by decide +kernel) (by decide +kernel)
set_option maxRecDepth 20000 in
theorem gX1_copyFrom_X3_copyFrom_n23 : GoodIn wsX1_copyFrom (wsX3_copyFrom) := ggX1_copyFrom_X3_copyFrom
set_option maxRecDepth 20000 in
theorem ggX1_copyFrom_X4_copyFrom : GoodIn wsX1_copyFrom wsX4_copyFrom := goodIn_r _ [14, 15, 22] (by decide +kernel) (by decide +kernel)
set_option maxRecDepth 20000 in
theorem gX1_copyFrom_X4_copyFrom_n27 : GoodIn wsX1_copyFrom (wsX4_copyFrom) := ggX1_copyFrom_X4_copyFrom
theorem dX1_copyFrom_0 : decode cX1_copyFrom 0 = .ok (.aload_n 0, 1) := by decide +kernel
theorem dX1_copyFrom_1 : decode cX1_copyFrom 1 = .ok (.getfield 10, 3) := by decide +kernel
theorem dX1_copyFrom_4 : decode cX1_copyFrom 4 = .ok (.aload_n 1, 1) := by decide +kernel
theorem dX1_copyFrom_5 : decode cX1_copyFrom 5 = .ok (.getfield 10, 3) := by decide +kernel
theorem dX1_copyFrom_8 : decode cX1_copyFrom 8 = .ok (.invokevirtual 23, 3) := by decide +kernel
theorem dX1_copyFrom_11 : decode cX1_copyFrom 11 = .ok (.aload_n 0, 1) := by decide +kernel
theorem dX1_copyFrom_12 : decode cX1_copyFrom 12 = .ok (.getfield 19, 3) := by decide +kernel
theorem dX1_copyFrom_15 : decode cX1_copyFrom 15 = .ok (.aload_n 1, 1) := by decide +kernel
theorem dX1_copyFrom_16 : decode cX1_copyFrom 16 = .ok (.getfield 19, 3) := by decide +kernel
theorem dX1_copyFrom_19 : decode cX1_copyFrom 19 = .ok (.invokevirtual 27, 3) := by decide +kernel
theorem dX1_copyFrom_22 : decode cX1_copyFrom 22 = .ok (.return_, 1) := by decide +kernel
set_option maxRecDepth 20000 in
theorem ggX2_init_X0_remainder : GoodIn wsX2_init wsX0_remainder := goodIn_r _ [8] (by decide +kernel) (by decide +kernel)
set_option maxRecDepth 20000 in
theorem gX2_init_X0_remainder_n15 : GoodIn wsX2_init (wsX0_remainder) := ggX2_init_X0_remainder
set_option maxRecDepth 20000 in
theorem ggX2_init_X2_enter : GoodIn wsX2_init wsX2_enter := goodIn_r _ [13, 5, 14, 15, 16, 17] (by decide +kernel) (by decide +kernel)
set_option maxRecDepth 20000 in
theorem gX2_init_X2_enter : GoodIn wsX2_init (wsV RX2 21 RX2 yX2_enter wsX2_enter) := goodIn_app (goodIn_of _ (by decide +kernel)) ggX2_init_X2_enter
theorem dX2_init_0 : decode cX2_init 0 = .ok (.aload_n 0, 1) := by decide +kernel
theorem dX2_init_1 : decode cX2_init 1 = .ok (.invokespecial 3, 3) := by decide +kernel
theorem dX2_init_4 : decode cX2_init 4 = .ok (.aload_n 0, 1) := by decide +kernel
theorem dX2_init_5 : decode cX2_init 5 = .ok (.sipush 2048, 3) := by decide +kernel
theorem dX2_init_8 : decode cX2_init 8 = .ok (.newarray .int, 2) := by decide +kernel
theorem dX2_init_10 : decode cX2_init 10 = .ok (.putfield 9, 3) := by decide +kernel
theorem dX2_init_13 : decode cX2_init 13 = .ok (.bipush 23, 2) := by decide +kernel
theorem dX2_init_15 : decode cX2_init 15 = .ok (.newarray .int, 2) := by decide +kernel
theorem dX2_init_17 : decode cX2_init 17 = .ok (.astore_n 1, 1) := by decide +kernel
theorem dX2_init_18 : decode cX2_init 18 = .ok (.iconst 0, 1) := by decide +kernel
theorem dX2_init_19 : decode cX2_init 19 = .ok (.istore_n 2, 1) := by decide +kernel
theorem dX2_init_20 : decode cX2_init 20 = .ok (.iload_n 2, 1) := by decide +kernel
theorem dX2_init_21 : decode cX2_init 21 = .ok (.bipush 23, 2) := by decide +kernel
theorem dX2_init_23 : decode cX2_init 23 = .ok (.if_icmp .ge 18, 3) := by decide +kernel
theorem dX2_init_26 : decode cX2_init 26 = .ok (.aload_n 1, 1) := by decide +kernel
theorem dX2_init_27 : decode cX2_init 27 = .ok (.iload_n 2, 1) := by decide +kernel
theorem dX2_init_28 : decode cX2_init 28 = .ok (.iconst 1, 1) := by decide +kernel
theorem dX2_init_29 : decode cX2_init 29 = .ok (.iload_n 2, 1) := by decide +kernel
theorem dX2_init_30 : decode cX2_init 30 = .ok (.ishl, 1) := by decide +kernel
theorem dX2_init_31 : decode cX2_init 31 = .ok (.invokestatic 15, 3) := by decide +kernel
theorem dX2_init_34 : decode cX2_init 34 = .ok (.iastore, 1) := by decide +kernel
theorem dX2_init_35 : decode cX2_init 35 = .ok (.iinc 2 1, 3) := by decide +kernel
theorem dX2_init_38 : decode cX2_init 38 = .ok (.goto (-18), 3) := by decide +kernel
theorem dX2_init_41 : decode cX2_init 41 = .ok (.iconst 0, 1) := by decide +kernel
theorem dX2_init_42 : decode cX2_init 42 = .ok (.istore_n 2, 1) := by decide +kernel
theorem dX2_init_43 : decode cX2_init 43 = .ok (.iload_n 2, 1) := by decide +kernel
theorem dX2_init_44 : decode cX2_init 44 = .ok (.bipush 23, 2) := by decide +kernel
theorem dX2_init_46 : decode cX2_init 46 = .ok (.if_icmp .ge 91, 3) := by decide +kernel
theorem dX2_init_49 : decode cX2_init 49 = .ok (.aload_n 0, 1) := by decide +kernel
theorem dX2_init_50 : decode cX2_init 50 = .ok (.aload_n 1, 1) := by decide +kernel
theorem dX2_init_51 : decode cX2_init 51 = .ok (.iload_n 2, 1) := by decide +kernel
theorem dX2_init_52 : decode cX2_init 52 = .ok (.iaload, 1) := by decide +kernel
theorem dX2_init_53 : decode cX2_init 53 = .ok (.iconst 1, 1) := by decide +kernel
theorem dX2_init_54 : decode cX2_init 54 = .ok (.iload_n 2, 1) := by decide +kernel
theorem dX2_init_55 : decode cX2_init 55 = .ok (.ishl, 1) := by decide +kernel
theorem dX2_init_56 : decode cX2_init 56 = .ok (.invokevirtual 21, 3) := by decide +kernel
theorem dX2_init_59 : decode cX2_init 59 = .ok (.iconst 0, 1) := by decide +kernel
theorem dX2_init_60 : decode cX2_init 60 = .ok (.istore_n 3, 1) := by decide +kernel
theorem dX2_init_61 : decode cX2_init 61 = .ok (.iload_n 3, 1) := by decide +kernel
theorem dX2_init_62 : decode cX2_init 62 = .ok (.iload_n 2, 1) := by decide +kernel
theorem dX2_init_63 : decode cX2_init 63 = .ok (.if_icmp .ge 68, 3) := by decide +kernel
theorem dX2_init_66 : decode cX2_init 66 = .ok (.aload_n 1, 1) := by decide +kernel
theorem dX2_init_67 : decode cX2_init 67 = .ok (.iload_n 2, 1) := by decide +kernel
theorem dX2_init_68 : decode cX2_init 68 = .ok (.iaload, 1) := by decide +kernel
theorem dX2_init_69 : decode cX2_init 69 = .ok (.aload_n 1, 1) := by decide +kernel
theorem dX2_init_70 : decode cX2_init 70 = .ok (.iload_n 3, 1) := by decide +kernel
theorem dX2_init_71 : decode cX2_init 71 = .ok (.iaload, 1) := by decide +kernel
theorem dX2_init_72 : decode cX2_init 72 = .ok (.ixor, 1) := by decide +kernel
theorem dX2_init_73 : decode cX2_init 73 = .ok (.istore 4, 2) := by decide +kernel
theorem dX2_init_75 : decode cX2_init 75 = .ok (.iconst 1, 1) := by decide +kernel
theorem dX2_init_76 : decode cX2_init 76 = .ok (.iload_n 2, 1) := by decide +kernel
theorem dX2_init_77 : decode cX2_init 77 = .ok (.ishl, 1) := by decide +kernel
theorem dX2_init_78 : decode cX2_init 78 = .ok (.iconst 1, 1) := by decide +kernel
theorem dX2_init_79 : decode cX2_init 79 = .ok (.iload_n 3, 1) := by decide +kernel
theorem dX2_init_80 : decode cX2_init 80 = .ok (.ishl, 1) := by decide +kernel
theorem dX2_init_81 : decode cX2_init 81 = .ok (.ior, 1) := by decide +kernel
theorem dX2_init_82 : decode cX2_init 82 = .ok (.istore 5, 2) := by decide +kernel
theorem dX2_init_84 : decode cX2_init 84 = .ok (.aload_n 0, 1) := by decide +kernel
theorem dX2_init_85 : decode cX2_init 85 = .ok (.iload 4, 2) := by decide +kernel
theorem dX2_init_87 : decode cX2_init 87 = .ok (.iload 5, 2) := by decide +kernel
theorem dX2_init_89 : decode cX2_init 89 = .ok (.invokevirtual 21, 3) := by decide +kernel
theorem dX2_init_92 : decode cX2_init 92 = .ok (.iconst 0, 1) := by decide +kernel
theorem dX2_init_93 : decode cX2_init 93 = .ok (.istore 6, 2) := by decide +kernel
theorem dX2_init_95 : decode cX2_init 95 = .ok (.iload 6, 2) := by decide +kernel
theorem dX2_init_97 : decode cX2_init 97 = .ok (.iload_n 3, 1) := by decide +kernel
theorem dX2_init_98 : decode cX2_init 98 = .ok (.if_icmp .ge 27, 3) := by decide +kernel
theorem dX2_init_101 : decode cX2_init 101 = .ok (.aload_n 0, 1) := by decide +kernel
theorem dX2_init_102 : decode cX2_init 102 = .ok (.iload 4, 2) := by decide +kernel
theorem dX2_init_104 : decode cX2_init 104 = .ok (.aload_n 1, 1) := by decide +kernel
theorem dX2_init_105 : decode cX2_init 105 = .ok (.iload 6, 2) := by decide +kernel
theorem dX2_init_107 : decode cX2_init 107 = .ok (.iaload, 1) := by decide +kernel
theorem dX2_init_108 : decode cX2_init 108 = .ok (.ixor, 1) := by decide +kernel
theorem dX2_init_109 : decode cX2_init 109 = .ok (.iload 5, 2) := by decide +kernel
theorem dX2_init_111 : decode cX2_init 111 = .ok (.iconst 1, 1) := by decide +kernel
theorem dX2_init_112 : decode cX2_init 112 = .ok (.iload 6, 2) := by decide +kernel
theorem dX2_init_114 : decode cX2_init 114 = .ok (.ishl, 1) := by decide +kernel
theorem dX2_init_115 : decode cX2_init 115 = .ok (.ior, 1) := by decide +kernel
theorem dX2_init_116 : decode cX2_init 116 = .ok (.invokevirtual 21, 3) := by decide +kernel
theorem dX2_init_119 : decode cX2_init 119 = .ok (.iinc 6 1, 3) := by decide +kernel
theorem dX2_init_122 : decode cX2_init 122 = .ok (.goto (-27), 3) := by decide +kernel
theorem dX2_init_125 : decode cX2_init 125 = .ok (.iinc 3 1, 3) := by decide +kernel
theorem dX2_init_128 : decode cX2_init 128 = .ok (.goto (-67), 3) := by decide +kernel
theorem dX2_init_131 : decode cX2_init 131 = .ok (.iinc 2 1, 3) := by decide +kernel
theorem dX2_init_134 : decode cX2_init 134 = .ok (.goto (-91), 3) := by decide +kernel
theorem dX2_init_137 : decode cX2_init 137 = .ok (.return_, 1) := by decide +kernel
set_option maxRecDepth 20000 in
theorem ggX2_enter_X5_isBelow : GoodIn wsX2_enter wsX5_isBelow := goodIn_r _ [4] (by decide +kernel) (by decide +kernel)
set_option maxRecDepth 20000 in
theorem gX2_enter_X5_isBelow_n25 : GoodIn wsX2_enter (wsX5_isBelow) := ggX2_enter_X5_isBelow
theorem dX2_enter_0 : decode cX2_enter 0 = .ok (.iload_n 1, 1) := by decide +kernel
theorem dX2_enter_1 : decode cX2_enter 1 = .ok (.sipush 2048, 3) := by decide +kernel
theorem dX2_enter_4 : decode cX2_enter 4 = .ok (.invokestatic 25, 3) := by decide +kernel
theorem dX2_enter_7 : decode cX2_enter 7 = .ok (.ifCond .eq 10, 3) := by decide +kernel
theorem dX2_enter_10 : decode cX2_enter 10 = .ok (.aload_n 0, 1) := by decide +kernel
theorem dX2_enter_11 : decode cX2_enter 11 = .ok (.getfield 9, 3) := by decide +kernel
theorem dX2_enter_14 : decode cX2_enter 14 = .ok (.iload_n 1, 1) := by decide +kernel
theorem dX2_enter_15 : decode cX2_enter 15 = .ok (.iload_n 2, 1) := by decide +kernel
theorem dX2_enter_16 : decode cX2_enter 16 = .ok (.iastore, 1) := by decide +kernel
theorem dX2_enter_17 : decode cX2_enter 17 = .ok (.return_, 1) := by decide +kernel
set_option maxRecDepth 20000 in
theorem ggX2_errors_X0_remainder : GoodIn wsX2_errors wsX0_remainder := goodIn_r _ [4] (by decide +kernel) (by decide +kernel)
set_option maxRecDepth 20000 in
theorem gX2_errors_X0_remainder_n15 : GoodIn wsX2_errors (wsX0_remainder) := ggX2_errors_X0_remainder
set_option maxRecDepth 20000 in
theorem ggX2_errors_X5_isBelow : GoodIn wsX2_errors wsX5_isBelow := goodIn_r _ [7] (by decide +kernel) (by decide +kernel)
set_option maxRecDepth 20000 in
theorem gX2_errors_X5_isBelow_n25 : GoodIn wsX2_errors (wsX5_isBelow) := ggX2_errors_X5_isBelow
theorem dX2_errors_0 : decode cX2_errors 0 = .ok (.iload_n 1, 1) := by decide +kernel
theorem dX2_errors_1 : decode cX2_errors 1 = .ok (.invokestatic 15, 3) := by decide +kernel
theorem dX2_errors_4 : decode cX2_errors 4 = .ok (.istore_n 2, 1) := by decide +kernel
theorem dX2_errors_5 : decode cX2_errors 5 = .ok (.iload_n 2, 1) := by decide +kernel
theorem dX2_errors_6 : decode cX2_errors 6 = .ok (.sipush 2048, 3) := by decide +kernel
theorem dX2_errors_9 : decode cX2_errors 9 = .ok (.invokestatic 25, 3) := by decide +kernel
theorem dX2_errors_12 : decode cX2_errors 12 = .ok (.ifCond .eq 12, 3) := by decide +kernel
theorem dX2_errors_15 : decode cX2_errors 15 = .ok (.aload_n 0, 1) := by decide +kernel
theorem dX2_errors_16 : decode cX2_errors 16 = .ok (.getfield 9, 3) := by decide +kernel
theorem dX2_errors_19 : decode cX2_errors 19 = .ok (.iload_n 2, 1) := by decide +kernel
theorem dX2_errors_20 : decode cX2_errors 20 = .ok (.iaload, 1) := by decide +kernel
theorem dX2_errors_21 : decode cX2_errors 21 = .ok (.goto 4, 3) := by decide +kernel
theorem dX2_errors_24 : decode cX2_errors 24 = .ok (.iconst 0, 1) := by decide +kernel
theorem dX2_errors_25 : decode cX2_errors 25 = .ok (.ireturn, 1) := by decide +kernel
set_option maxRecDepth 20000 in
theorem ggX2_nearest_X2_errors : GoodIn wsX2_nearest wsX2_errors := goodIn_r _ [5, 6, 7, 8, 9, 10, 11, 12, 13] (by decide +kernel) (by decide +kernel)
set_option maxRecDepth 20000 in
theorem gX2_nearest_X2_errors : GoodIn wsX2_nearest (wsV RX2 29 RX2 yX2_errors wsX2_errors) := goodIn_app (goodIn_of _ (by decide +kernel)) ggX2_nearest_X2_errors
theorem dX2_nearest_0 : decode cX2_nearest 0 = .ok (.iload_n 1, 1) := by decide +kernel
theorem dX2_nearest_1 : decode cX2_nearest 1 = .ok (.aload_n 0, 1) := by decide +kernel
theorem dX2_nearest_2 : decode cX2_nearest 2 = .ok (.iload_n 1, 1) := by decide +kernel
theorem dX2_nearest_3 : decode cX2_nearest 3 = .ok (.invokevirtual 29, 3) := by decide +kernel
theorem dX2_nearest_6 : decode cX2_nearest 6 = .ok (.ixor, 1) := by decide +kernel
theorem dX2_nearest_7 : decode cX2_nearest 7 = .ok (.ireturn, 1) := by decide +kernel
set_option maxRecDepth 20000 in
theorem ggX2_distance_X2_errors : GoodIn wsX2_distance wsX2_errors := goodIn_r _ [5, 6, 7, 8, 9, 10, 11, 12, 20] (by decide +kernel) (by decide +kernel)
set_option maxRecDepth 20000 in
theorem gX2_distance_X2_errors : GoodIn wsX2_distance (wsV RX2 29 RX2 yX2_errors wsX2_errors) := goodIn_app (goodIn_of _ (by decide +kernel)) ggX2_distance_X2_errors
set_option maxRecDepth 20000 in
theorem ggX2_distance_J6_bitCount_0f7a4 : GoodIn wsX2_distance wsJ6_bitCount_0f7a4 := goodIn_r _ [16, 17, 18, 19] (by decide +kernel) (by decide +kernel)
set_option maxRecDepth 20000 in
theorem gX2_distance_J6_bitCount_0f7a4 : GoodIn wsX2_distance (va_wsS RX2 32 yJ6_bitCount_0f7a4 wsJ6_bitCount_0f7a4) := goodIn_app (goodIn_of _ (by decide +kernel)) ggX2_distance_J6_bitCount_0f7a4
theorem dX2_distance_0 : decode cX2_distance 0 = .ok (.aload_n 0, 1) := by decide +kernel
theorem dX2_distance_1 : decode cX2_distance 1 = .ok (.iload_n 1, 1) := by decide +kernel
theorem dX2_distance_2 : decode cX2_distance 2 = .ok (.invokevirtual 29, 3) := by decide +kernel
theorem dX2_distance_5 : decode cX2_distance 5 = .ok (.invokestatic 32, 3) := by decide +kernel
theorem dX2_distance_8 : decode cX2_distance 8 = .ok (.ireturn, 1) := by decide +kernel
theorem dX3_init_0 : decode cX3_init 0 = .ok (.aload_n 0, 1) := by decide +kernel
theorem dX3_init_1 : decode cX3_init 1 = .ok (.invokespecial 3, 3) := by decide +kernel
theorem dX3_init_4 : decode cX3_init 4 = .ok (.aload_n 0, 1) := by decide +kernel
theorem dX3_init_5 : decode cX3_init 5 = .ok (.iconst 0, 1) := by decide +kernel
theorem dX3_init_6 : decode cX3_init 6 = .ok (.putfield 9, 3) := by decide +kernel
theorem dX3_init_9 : decode cX3_init 9 = .ok (.aload_n 0, 1) := by decide +kernel
theorem dX3_init_10 : decode cX3_init 10 = .ok (.bipush 8, 2) := by decide +kernel
theorem dX3_init_12 : decode cX3_init 12 = .ok (.newarray .int, 2) := by decide +kernel
theorem dX3_init_14 : decode cX3_init 14 = .ok (.putfield 15, 3) := by decide +kernel
theorem dX3_init_17 : decode cX3_init 17 = .ok (.aload_n 0, 1) := by decide +kernel
theorem dX3_init_18 : decode cX3_init 18 = .ok (.bipush 8, 2) := by decide +kernel
theorem dX3_init_20 : decode cX3_init 20 = .ok (.newarray .int, 2) := by decide +kernel
theorem dX3_init_22 : decode cX3_init 22 = .ok (.putfield 19, 3) := by decide +kernel
theorem dX3_init_25 : decode cX3_init 25 = .ok (.aload_n 0, 1) := by decide +kernel
theorem dX3_init_26 : decode cX3_init 26 = .ok (.bipush 8, 2) := by decide +kernel
theorem dX3_init_28 : decode cX3_init 28 = .ok (.newarray .int, 2) := by decide +kernel
theorem dX3_init_30 : decode cX3_init 30 = .ok (.putfield 22, 3) := by decide +kernel
theorem dX3_init_33 : decode cX3_init 33 = .ok (.return_, 1) := by decide +kernel
theorem dX3_copyFrom_0 : decode cX3_copyFrom 0 = .ok (.aload_n 0, 1) := by decide +kernel
theorem dX3_copyFrom_1 : decode cX3_copyFrom 1 = .ok (.aload_n 1, 1) := by decide +kernel
theorem dX3_copyFrom_2 : decode cX3_copyFrom 2 = .ok (.getfield 9, 3) := by decide +kernel
theorem dX3_copyFrom_5 : decode cX3_copyFrom 5 = .ok (.putfield 9, 3) := by decide +kernel
theorem dX3_copyFrom_8 : decode cX3_copyFrom 8 = .ok (.iconst 0, 1) := by decide +kernel
theorem dX3_copyFrom_9 : decode cX3_copyFrom 9 = .ok (.istore_n 2, 1) := by decide +kernel
theorem dX3_copyFrom_10 : decode cX3_copyFrom 10 = .ok (.iload_n 2, 1) := by decide +kernel
theorem dX3_copyFrom_11 : decode cX3_copyFrom 11 = .ok (.bipush 8, 2) := by decide +kernel
theorem dX3_copyFrom_13 : decode cX3_copyFrom 13 = .ok (.if_icmp .ge 45, 3) := by decide +kernel
theorem dX3_copyFrom_16 : decode cX3_copyFrom 16 = .ok (.aload_n 0, 1) := by decide +kernel
theorem dX3_copyFrom_17 : decode cX3_copyFrom 17 = .ok (.getfield 15, 3) := by decide +kernel
theorem dX3_copyFrom_20 : decode cX3_copyFrom 20 = .ok (.iload_n 2, 1) := by decide +kernel
theorem dX3_copyFrom_21 : decode cX3_copyFrom 21 = .ok (.aload_n 1, 1) := by decide +kernel
theorem dX3_copyFrom_22 : decode cX3_copyFrom 22 = .ok (.getfield 15, 3) := by decide +kernel
theorem dX3_copyFrom_25 : decode cX3_copyFrom 25 = .ok (.iload_n 2, 1) := by decide +kernel
theorem dX3_copyFrom_26 : decode cX3_copyFrom 26 = .ok (.iaload, 1) := by decide +kernel
theorem dX3_copyFrom_27 : decode cX3_copyFrom 27 = .ok (.iastore, 1) := by decide +kernel
