theorem d_Wk_divide_88 : decode prog_6_method_6_code 88 = .ok (.iinc 3 1, 3) := by decide +kernel
theorem d_Wk_divide_91 : decode prog_6_method_6_code 91 = .ok (.goto (-89), 3) := by decide +kernel
theorem d_Wk_divide_94 : decode prog_6_method_6_code 94 = .ok (.iconst 0, 1) := by decide +kernel
theorem d_Wk_divide_95 : decode prog_6_method_6_code 95 = .ok (.ireturn, 1) := by decide +kernel
theorem d_Wk_divideInts_0 : decode prog_6_method_7_code 0 = .ok (.iload_n 1, 1) := by decide +kernel
theorem d_Wk_divideInts_1 : decode prog_6_method_7_code 1 = .ok (.ifCond .ne 7, 3) := by decide +kernel
theorem d_Wk_divideInts_4 : decode prog_6_method_7_code 4 = .ok (.iconst 0, 1) := by decide +kernel
theorem d_Wk_divideInts_5 : decode prog_6_method_7_code 5 = .ok (.goto 6, 3) := by decide +kernel
theorem d_Wk_divideInts_8 : decode prog_6_method_7_code 8 = .ok (.iload_n 0, 1) := by decide +kernel
theorem d_Wk_divideInts_9 : decode prog_6_method_7_code 9 = .ok (.iload_n 1, 1) := by decide +kernel
theorem d_Wk_divideInts_10 : decode prog_6_method_7_code 10 = .ok (.idiv, 1) := by decide +kernel
theorem d_Wk_divideInts_11 : decode prog_6_method_7_code 11 = .ok (.ireturn, 1) := by decide +kernel
theorem d_Wk_pick_0 : decode prog_6_method_18_code 0 = .ok (.iconst 0, 1) := by decide +kernel
theorem d_Wk_pick_1 : decode prog_6_method_18_code 1 = .ok (.istore_n 3, 1) := by decide +kernel
theorem d_Wk_pick_2 : decode prog_6_method_18_code 2 = .ok (.iload_n 3, 1) := by decide +kernel
theorem d_Wk_pick_3 : decode prog_6_method_18_code 3 = .ok (.aload_n 2, 1) := by decide +kernel
theorem d_Wk_pick_4 : decode prog_6_method_18_code 4 = .ok (.getfield 53, 3) := by decide +kernel
theorem d_Wk_pick_7 : decode prog_6_method_18_code 7 = .ok (.if_icmp .ge 57, 3) := by decide +kernel
theorem d_Wk_pick_10 : decode prog_6_method_18_code 10 = .ok (.aload_n 1, 1) := by decide +kernel
theorem d_Wk_pick_11 : decode prog_6_method_18_code 11 = .ok (.iconst 0, 1) := by decide +kernel
theorem d_Wk_pick_12 : decode prog_6_method_18_code 12 = .ok (.iload_n 3, 1) := by decide +kernel
theorem d_Wk_pick_13 : decode prog_6_method_18_code 13 = .ok (.invokevirtual 103, 3) := by decide +kernel
theorem d_Wk_pick_16 : decode prog_6_method_18_code 16 = .ok (.d2i, 1) := by decide +kernel
theorem d_Wk_pick_17 : decode prog_6_method_18_code 17 = .ok (.istore 4, 2) := by decide +kernel
theorem d_Wk_pick_19 : decode prog_6_method_18_code 19 = .ok (.iload 4, 2) := by decide +kernel
theorem d_Wk_pick_21 : decode prog_6_method_18_code 21 = .ok (.ifCond .ge 13, 3) := by decide +kernel
theorem d_Wk_pick_24 : decode prog_6_method_18_code 24 = .ok (.aload_n 0, 1) := by decide +kernel
theorem d_Wk_pick_25 : decode prog_6_method_18_code 25 = .ok (.getfield 53, 3) := by decide +kernel
theorem d_Wk_pick_28 : decode prog_6_method_18_code 28 = .ok (.iload 4, 2) := by decide +kernel
theorem d_Wk_pick_30 : decode prog_6_method_18_code 30 = .ok (.iadd, 1) := by decide +kernel
theorem d_Wk_pick_31 : decode prog_6_method_18_code 31 = .ok (.goto 5, 3) := by decide +kernel
theorem d_Wk_pick_34 : decode prog_6_method_18_code 34 = .ok (.iload 4, 2) := by decide +kernel
theorem d_Wk_pick_36 : decode prog_6_method_18_code 36 = .ok (.istore 5, 2) := by decide +kernel
theorem d_Wk_pick_38 : decode prog_6_method_18_code 38 = .ok (.aload_n 0, 1) := by decide +kernel
theorem d_Wk_pick_39 : decode prog_6_method_18_code 39 = .ok (.iload 5, 2) := by decide +kernel
theorem d_Wk_pick_41 : decode prog_6_method_18_code 41 = .ok (.iconst 0, 1) := by decide +kernel
theorem d_Wk_pick_42 : decode prog_6_method_18_code 42 = .ok (.invokevirtual 117, 3) := by decide +kernel
theorem d_Wk_pick_45 : decode prog_6_method_18_code 45 = .ok (.ifCond .ne 5, 3) := by decide +kernel
theorem d_Wk_pick_48 : decode prog_6_method_18_code 48 = .ok (.iconst 2, 1) := by decide +kernel
theorem d_Wk_pick_49 : decode prog_6_method_18_code 49 = .ok (.ireturn, 1) := by decide +kernel
theorem d_Wk_pick_50 : decode prog_6_method_18_code 50 = .ok (.aload_n 0, 1) := by decide +kernel
theorem d_Wk_pick_51 : decode prog_6_method_18_code 51 = .ok (.iload 5, 2) := by decide +kernel
theorem d_Wk_pick_53 : decode prog_6_method_18_code 53 = .ok (.aload_n 2, 1) := by decide +kernel
theorem d_Wk_pick_54 : decode prog_6_method_18_code 54 = .ok (.iload_n 3, 1) := by decide +kernel
theorem d_Wk_pick_55 : decode prog_6_method_18_code 55 = .ok (.invokestatic 113, 3) := by decide +kernel
theorem d_Wk_pick_58 : decode prog_6_method_18_code 58 = .ok (.iinc 3 1, 3) := by decide +kernel
theorem d_Wk_pick_61 : decode prog_6_method_18_code 61 = .ok (.goto (-59), 3) := by decide +kernel
theorem d_Wk_pick_64 : decode prog_6_method_18_code 64 = .ok (.iconst 0, 1) := by decide +kernel
theorem d_Wk_pick_65 : decode prog_6_method_18_code 65 = .ok (.ireturn, 1) := by decide +kernel
theorem d_Wk_copyRow_0 : decode prog_6_method_19_code 0 = .ok (.iconst 0, 1) := by decide +kernel
theorem d_Wk_copyRow_1 : decode prog_6_method_19_code 1 = .ok (.istore 4, 2) := by decide +kernel
theorem d_Wk_copyRow_3 : decode prog_6_method_19_code 3 = .ok (.iload 4, 2) := by decide +kernel
theorem d_Wk_copyRow_5 : decode prog_6_method_19_code 5 = .ok (.aload_n 0, 1) := by decide +kernel
theorem d_Wk_copyRow_6 : decode prog_6_method_19_code 6 = .ok (.getfield 58, 3) := by decide +kernel
theorem d_Wk_copyRow_9 : decode prog_6_method_19_code 9 = .ok (.if_icmp .ge 23, 3) := by decide +kernel
theorem d_Wk_copyRow_12 : decode prog_6_method_19_code 12 = .ok (.aload_n 2, 1) := by decide +kernel
theorem d_Wk_copyRow_13 : decode prog_6_method_19_code 13 = .ok (.iload_n 3, 1) := by decide +kernel
theorem d_Wk_copyRow_14 : decode prog_6_method_19_code 14 = .ok (.iload 4, 2) := by decide +kernel
theorem d_Wk_copyRow_16 : decode prog_6_method_19_code 16 = .ok (.aload_n 0, 1) := by decide +kernel
theorem d_Wk_copyRow_17 : decode prog_6_method_19_code 17 = .ok (.iload_n 1, 1) := by decide +kernel
theorem d_Wk_copyRow_18 : decode prog_6_method_19_code 18 = .ok (.iload 4, 2) := by decide +kernel
theorem d_Wk_copyRow_20 : decode prog_6_method_19_code 20 = .ok (.invokevirtual 103, 3) := by decide +kernel
theorem d_Wk_copyRow_23 : decode prog_6_method_19_code 23 = .ok (.invokevirtual 95, 3) := by decide +kernel
theorem d_Wk_copyRow_26 : decode prog_6_method_19_code 26 = .ok (.iinc 4 1, 3) := by decide +kernel
theorem d_Wk_copyRow_29 : decode prog_6_method_19_code 29 = .ok (.goto (-26), 3) := by decide +kernel
theorem d_Wk_copyRow_32 : decode prog_6_method_19_code 32 = .ok (.return_, 1) := by decide +kernel
theorem d_Wk_multiplyTables_0 : decode prog_6_method_8_code 0 = .ok (.iconst 0, 1) := by decide +kernel
theorem d_Wk_multiplyTables_1 : decode prog_6_method_8_code 1 = .ok (.istore_n 3, 1) := by decide +kernel
theorem d_Wk_multiplyTables_2 : decode prog_6_method_8_code 2 = .ok (.iload_n 3, 1) := by decide +kernel
theorem d_Wk_multiplyTables_3 : decode prog_6_method_8_code 3 = .ok (.aload_n 2, 1) := by decide +kernel
theorem d_Wk_multiplyTables_4 : decode prog_6_method_8_code 4 = .ok (.getfield 53, 3) := by decide +kernel
theorem d_Wk_multiplyTables_7 : decode prog_6_method_8_code 7 = .ok (.if_icmp .ge 78, 3) := by decide +kernel
theorem d_Wk_multiplyTables_10 : decode prog_6_method_8_code 10 = .ok (.iconst 0, 1) := by decide +kernel
theorem d_Wk_multiplyTables_11 : decode prog_6_method_8_code 11 = .ok (.istore 4, 2) := by decide +kernel
theorem d_Wk_multiplyTables_13 : decode prog_6_method_8_code 13 = .ok (.iload 4, 2) := by decide +kernel
theorem d_Wk_multiplyTables_15 : decode prog_6_method_8_code 15 = .ok (.aload_n 2, 1) := by decide +kernel
theorem d_Wk_multiplyTables_16 : decode prog_6_method_8_code 16 = .ok (.getfield 58, 3) := by decide +kernel
theorem d_Wk_multiplyTables_19 : decode prog_6_method_8_code 19 = .ok (.if_icmp .ge 60, 3) := by decide +kernel
theorem d_Wk_multiplyTables_22 : decode prog_6_method_8_code 22 = .ok (.dconst 0, 1) := by decide +kernel
theorem d_Wk_multiplyTables_23 : decode prog_6_method_8_code 23 = .ok (.dstore 5, 2) := by decide +kernel
theorem d_Wk_multiplyTables_25 : decode prog_6_method_8_code 25 = .ok (.iconst 0, 1) := by decide +kernel
theorem d_Wk_multiplyTables_26 : decode prog_6_method_8_code 26 = .ok (.istore 7, 2) := by decide +kernel
theorem d_Wk_multiplyTables_28 : decode prog_6_method_8_code 28 = .ok (.iload 7, 2) := by decide +kernel
theorem d_Wk_multiplyTables_30 : decode prog_6_method_8_code 30 = .ok (.aload_n 0, 1) := by decide +kernel
theorem d_Wk_multiplyTables_31 : decode prog_6_method_8_code 31 = .ok (.getfield 58, 3) := by decide +kernel
theorem d_Wk_multiplyTables_34 : decode prog_6_method_8_code 34 = .ok (.if_icmp .ge 30, 3) := by decide +kernel
theorem d_Wk_multiplyTables_37 : decode prog_6_method_8_code 37 = .ok (.dload 5, 2) := by decide +kernel
theorem d_Wk_multiplyTables_39 : decode prog_6_method_8_code 39 = .ok (.aload_n 0, 1) := by decide +kernel
theorem d_Wk_multiplyTables_40 : decode prog_6_method_8_code 40 = .ok (.iload_n 3, 1) := by decide +kernel
theorem d_Wk_multiplyTables_41 : decode prog_6_method_8_code 41 = .ok (.iload 7, 2) := by decide +kernel
theorem d_Wk_multiplyTables_43 : decode prog_6_method_8_code 43 = .ok (.invokevirtual 103, 3) := by decide +kernel
theorem d_Wk_multiplyTables_46 : decode prog_6_method_8_code 46 = .ok (.aload_n 1, 1) := by decide +kernel
theorem d_Wk_multiplyTables_47 : decode prog_6_method_8_code 47 = .ok (.iload 7, 2) := by decide +kernel
theorem d_Wk_multiplyTables_49 : decode prog_6_method_8_code 49 = .ok (.iload 4, 2) := by decide +kernel
theorem d_Wk_multiplyTables_51 : decode prog_6_method_8_code 51 = .ok (.invokevirtual 103, 3) := by decide +kernel
theorem d_Wk_multiplyTables_54 : decode prog_6_method_8_code 54 = .ok (.dmul, 1) := by decide +kernel
theorem d_Wk_multiplyTables_55 : decode prog_6_method_8_code 55 = .ok (.dadd, 1) := by decide +kernel
theorem d_Wk_multiplyTables_56 : decode prog_6_method_8_code 56 = .ok (.dstore 5, 2) := by decide +kernel
theorem d_Wk_multiplyTables_58 : decode prog_6_method_8_code 58 = .ok (.iinc 7 1, 3) := by decide +kernel
theorem d_Wk_multiplyTables_61 : decode prog_6_method_8_code 61 = .ok (.goto (-33), 3) := by decide +kernel
theorem d_Wk_multiplyTables_64 : decode prog_6_method_8_code 64 = .ok (.aload_n 2, 1) := by decide +kernel
theorem d_Wk_multiplyTables_65 : decode prog_6_method_8_code 65 = .ok (.iload_n 3, 1) := by decide +kernel
theorem d_Wk_multiplyTables_66 : decode prog_6_method_8_code 66 = .ok (.iload 4, 2) := by decide +kernel
theorem d_Wk_multiplyTables_68 : decode prog_6_method_8_code 68 = .ok (.dload 5, 2) := by decide +kernel
theorem d_Wk_multiplyTables_70 : decode prog_6_method_8_code 70 = .ok (.invokevirtual 95, 3) := by decide +kernel
theorem d_Wk_multiplyTables_73 : decode prog_6_method_8_code 73 = .ok (.iinc 4 1, 3) := by decide +kernel
theorem d_Wk_multiplyTables_76 : decode prog_6_method_8_code 76 = .ok (.goto (-63), 3) := by decide +kernel
theorem d_Wk_multiplyTables_79 : decode prog_6_method_8_code 79 = .ok (.iinc 3 1, 3) := by decide +kernel
theorem d_Wk_multiplyTables_82 : decode prog_6_method_8_code 82 = .ok (.goto (-80), 3) := by decide +kernel
theorem d_Wk_multiplyTables_85 : decode prog_6_method_8_code 85 = .ok (.return_, 1) := by decide +kernel
theorem d_Wk_turn_0 : decode prog_6_method_11_code 0 = .ok (.iconst 0, 1) := by decide +kernel
theorem d_Wk_turn_1 : decode prog_6_method_11_code 1 = .ok (.istore_n 2, 1) := by decide +kernel
theorem d_Wk_turn_2 : decode prog_6_method_11_code 2 = .ok (.iload_n 2, 1) := by decide +kernel
theorem d_Wk_turn_3 : decode prog_6_method_11_code 3 = .ok (.aload_n 1, 1) := by decide +kernel
theorem d_Wk_turn_4 : decode prog_6_method_11_code 4 = .ok (.getfield 53, 3) := by decide +kernel
theorem d_Wk_turn_7 : decode prog_6_method_11_code 7 = .ok (.if_icmp .ge 37, 3) := by decide +kernel
theorem d_Wk_turn_10 : decode prog_6_method_11_code 10 = .ok (.iconst 0, 1) := by decide +kernel
theorem d_Wk_turn_11 : decode prog_6_method_11_code 11 = .ok (.istore_n 3, 1) := by decide +kernel
theorem d_Wk_turn_12 : decode prog_6_method_11_code 12 = .ok (.iload_n 3, 1) := by decide +kernel
theorem d_Wk_turn_13 : decode prog_6_method_11_code 13 = .ok (.aload_n 1, 1) := by decide +kernel
theorem d_Wk_turn_14 : decode prog_6_method_11_code 14 = .ok (.getfield 58, 3) := by decide +kernel
theorem d_Wk_turn_17 : decode prog_6_method_11_code 17 = .ok (.if_icmp .ge 21, 3) := by decide +kernel
theorem d_Wk_turn_20 : decode prog_6_method_11_code 20 = .ok (.aload_n 1, 1) := by decide +kernel
theorem d_Wk_turn_21 : decode prog_6_method_11_code 21 = .ok (.iload_n 2, 1) := by decide +kernel
theorem d_Wk_turn_22 : decode prog_6_method_11_code 22 = .ok (.iload_n 3, 1) := by decide +kernel
theorem d_Wk_turn_23 : decode prog_6_method_11_code 23 = .ok (.aload_n 0, 1) := by decide +kernel
theorem d_Wk_turn_24 : decode prog_6_method_11_code 24 = .ok (.iload_n 3, 1) := by decide +kernel
theorem d_Wk_turn_25 : decode prog_6_method_11_code 25 = .ok (.iload_n 2, 1) := by decide +kernel
theorem d_Wk_turn_26 : decode prog_6_method_11_code 26 = .ok (.invokevirtual 103, 3) := by decide +kernel
theorem d_Wk_turn_29 : decode prog_6_method_11_code 29 = .ok (.invokevirtual 95, 3) := by decide +kernel
theorem d_Wk_turn_32 : decode prog_6_method_11_code 32 = .ok (.iinc 3 1, 3) := by decide +kernel
theorem d_Wk_turn_35 : decode prog_6_method_11_code 35 = .ok (.goto (-23), 3) := by decide +kernel
theorem d_Wk_turn_38 : decode prog_6_method_11_code 38 = .ok (.iinc 2 1, 3) := by decide +kernel
theorem d_Wk_turn_41 : decode prog_6_method_11_code 41 = .ok (.goto (-39), 3) := by decide +kernel
theorem d_Wk_turn_44 : decode prog_6_method_11_code 44 = .ok (.return_, 1) := by decide +kernel
theorem d_Wk_chooseEach_0 : decode prog_6_method_12_code 0 = .ok (.iconst 0, 1) := by decide +kernel
theorem d_Wk_chooseEach_1 : decode prog_6_method_12_code 1 = .ok (.istore 4, 2) := by decide +kernel
theorem d_Wk_chooseEach_3 : decode prog_6_method_12_code 3 = .ok (.iload 4, 2) := by decide +kernel
theorem d_Wk_chooseEach_5 : decode prog_6_method_12_code 5 = .ok (.aload_n 3, 1) := by decide +kernel
theorem d_Wk_chooseEach_6 : decode prog_6_method_12_code 6 = .ok (.getfield 53, 3) := by decide +kernel
theorem d_Wk_chooseEach_9 : decode prog_6_method_12_code 9 = .ok (.if_icmp .ge 67, 3) := by decide +kernel
theorem d_Wk_chooseEach_12 : decode prog_6_method_12_code 12 = .ok (.iconst 0, 1) := by decide +kernel
theorem d_Wk_chooseEach_13 : decode prog_6_method_12_code 13 = .ok (.istore 5, 2) := by decide +kernel
theorem d_Wk_chooseEach_15 : decode prog_6_method_12_code 15 = .ok (.iload 5, 2) := by decide +kernel
theorem d_Wk_chooseEach_17 : decode prog_6_method_12_code 17 = .ok (.aload_n 3, 1) := by decide +kernel
theorem d_Wk_chooseEach_18 : decode prog_6_method_12_code 18 = .ok (.getfield 58, 3) := by decide +kernel
theorem d_Wk_chooseEach_21 : decode prog_6_method_12_code 21 = .ok (.if_icmp .ge 49, 3) := by decide +kernel
theorem d_Wk_chooseEach_24 : decode prog_6_method_12_code 24 = .ok (.aload_n 3, 1) := by decide +kernel
theorem d_Wk_chooseEach_25 : decode prog_6_method_12_code 25 = .ok (.iload 4, 2) := by decide +kernel
theorem d_Wk_chooseEach_27 : decode prog_6_method_12_code 27 = .ok (.iload 5, 2) := by decide +kernel
theorem d_Wk_chooseEach_29 : decode prog_6_method_12_code 29 = .ok (.aload_n 2, 1) := by decide +kernel
theorem d_Wk_chooseEach_30 : decode prog_6_method_12_code 30 = .ok (.iload 4, 2) := by decide +kernel
theorem d_Wk_chooseEach_32 : decode prog_6_method_12_code 32 = .ok (.iload 5, 2) := by decide +kernel
theorem d_Wk_chooseEach_34 : decode prog_6_method_12_code 34 = .ok (.invokevirtual 80, 3) := by decide +kernel
theorem d_Wk_chooseEach_37 : decode prog_6_method_12_code 37 = .ok (.dconst 0, 1) := by decide +kernel
theorem d_Wk_chooseEach_38 : decode prog_6_method_12_code 38 = .ok (.dcmp .l, 1) := by decide +kernel
theorem d_Wk_chooseEach_39 : decode prog_6_method_12_code 39 = .ok (.ifCond .eq 14, 3) := by decide +kernel
theorem d_Wk_chooseEach_42 : decode prog_6_method_12_code 42 = .ok (.aload_n 0, 1) := by decide +kernel
theorem d_Wk_chooseEach_43 : decode prog_6_method_12_code 43 = .ok (.iload 4, 2) := by decide +kernel
theorem d_Wk_chooseEach_45 : decode prog_6_method_12_code 45 = .ok (.iload 5, 2) := by decide +kernel
theorem d_Wk_chooseEach_47 : decode prog_6_method_12_code 47 = .ok (.invokevirtual 80, 3) := by decide +kernel
theorem d_Wk_chooseEach_50 : decode prog_6_method_12_code 50 = .ok (.goto 11, 3) := by decide +kernel
theorem d_Wk_chooseEach_53 : decode prog_6_method_12_code 53 = .ok (.aload_n 1, 1) := by decide +kernel
theorem d_Wk_chooseEach_54 : decode prog_6_method_12_code 54 = .ok (.iload 4, 2) := by decide +kernel
theorem d_Wk_chooseEach_56 : decode prog_6_method_12_code 56 = .ok (.iload 5, 2) := by decide +kernel
theorem d_Wk_chooseEach_58 : decode prog_6_method_12_code 58 = .ok (.invokevirtual 80, 3) := by decide +kernel
theorem d_Wk_chooseEach_61 : decode prog_6_method_12_code 61 = .ok (.invokevirtual 95, 3) := by decide +kernel
theorem d_Wk_chooseEach_64 : decode prog_6_method_12_code 64 = .ok (.iinc 5 1, 3) := by decide +kernel
theorem d_Wk_chooseEach_67 : decode prog_6_method_12_code 67 = .ok (.goto (-52), 3) := by decide +kernel
theorem d_Wk_chooseEach_70 : decode prog_6_method_12_code 70 = .ok (.iinc 4 1, 3) := by decide +kernel
theorem d_Wk_chooseEach_73 : decode prog_6_method_12_code 73 = .ok (.goto (-70), 3) := by decide +kernel
theorem d_Wk_chooseEach_76 : decode prog_6_method_12_code 76 = .ok (.return_, 1) := by decide +kernel
theorem d_Wk_sum_0 : decode prog_6_method_13_code 0 = .ok (.iconst 0, 1) := by decide +kernel
theorem d_Wk_sum_1 : decode prog_6_method_13_code 1 = .ok (.istore_n 3, 1) := by decide +kernel
theorem d_Wk_sum_2 : decode prog_6_method_13_code 2 = .ok (.iload_n 3, 1) := by decide +kernel
theorem d_Wk_sum_3 : decode prog_6_method_13_code 3 = .ok (.aload_n 2, 1) := by decide +kernel
theorem d_Wk_sum_4 : decode prog_6_method_13_code 4 = .ok (.getfield 53, 3) := by decide +kernel
theorem d_Wk_sum_7 : decode prog_6_method_13_code 7 = .ok (.if_icmp .ge 35, 3) := by decide +kernel
theorem d_Wk_sum_10 : decode prog_6_method_13_code 10 = .ok (.iconst 0, 1) := by decide +kernel
theorem d_Wk_sum_11 : decode prog_6_method_13_code 11 = .ok (.istore 4, 2) := by decide +kernel
theorem d_Wk_sum_13 : decode prog_6_method_13_code 13 = .ok (.iload 4, 2) := by decide +kernel
theorem d_Wk_sum_15 : decode prog_6_method_13_code 15 = .ok (.aload_n 2, 1) := by decide +kernel
theorem d_Wk_sum_16 : decode prog_6_method_13_code 16 = .ok (.getfield 58, 3) := by decide +kernel
theorem d_Wk_sum_19 : decode prog_6_method_13_code 19 = .ok (.if_icmp .ge 17, 3) := by decide +kernel
theorem d_Wk_sum_22 : decode prog_6_method_13_code 22 = .ok (.aload_n 2, 1) := by decide +kernel
theorem d_Wk_sum_23 : decode prog_6_method_13_code 23 = .ok (.iload_n 3, 1) := by decide +kernel
theorem d_Wk_sum_24 : decode prog_6_method_13_code 24 = .ok (.iload 4, 2) := by decide +kernel
theorem d_Wk_sum_26 : decode prog_6_method_13_code 26 = .ok (.dconst 0, 1) := by decide +kernel
theorem d_Wk_sum_27 : decode prog_6_method_13_code 27 = .ok (.invokevirtual 95, 3) := by decide +kernel
theorem d_Wk_sum_30 : decode prog_6_method_13_code 30 = .ok (.iinc 4 1, 3) := by decide +kernel
theorem d_Wk_sum_33 : decode prog_6_method_13_code 33 = .ok (.goto (-20), 3) := by decide +kernel
theorem d_Wk_sum_36 : decode prog_6_method_13_code 36 = .ok (.iinc 3 1, 3) := by decide +kernel
theorem d_Wk_sum_39 : decode prog_6_method_13_code 39 = .ok (.goto (-37), 3) := by decide +kernel
theorem d_Wk_sum_42 : decode prog_6_method_13_code 42 = .ok (.iconst 0, 1) := by decide +kernel
theorem d_Wk_sum_43 : decode prog_6_method_13_code 43 = .ok (.istore_n 3, 1) := by decide +kernel
theorem d_Wk_sum_44 : decode prog_6_method_13_code 44 = .ok (.iload_n 3, 1) := by decide +kernel
theorem d_Wk_sum_45 : decode prog_6_method_13_code 45 = .ok (.aload_n 1, 1) := by decide +kernel
theorem d_Wk_sum_46 : decode prog_6_method_13_code 46 = .ok (.getfield 53, 3) := by decide +kernel
theorem d_Wk_sum_49 : decode prog_6_method_13_code 49 = .ok (.if_icmp .ge 104, 3) := by decide +kernel
theorem d_Wk_sum_52 : decode prog_6_method_13_code 52 = .ok (.iconst 0, 1) := by decide +kernel
theorem d_Wk_sum_53 : decode prog_6_method_13_code 53 = .ok (.istore 4, 2) := by decide +kernel
theorem d_Wk_sum_55 : decode prog_6_method_13_code 55 = .ok (.iload 4, 2) := by decide +kernel
theorem d_Wk_sum_57 : decode prog_6_method_13_code 57 = .ok (.aload_n 1, 1) := by decide +kernel
theorem d_Wk_sum_58 : decode prog_6_method_13_code 58 = .ok (.getfield 58, 3) := by decide +kernel
theorem d_Wk_sum_61 : decode prog_6_method_13_code 61 = .ok (.if_icmp .ge 86, 3) := by decide +kernel
theorem d_Wk_sum_64 : decode prog_6_method_13_code 64 = .ok (.iload_n 0, 1) := by decide +kernel
theorem d_Wk_sum_65 : decode prog_6_method_13_code 65 = .ok (.ifCond .ne 7, 3) := by decide +kernel
theorem d_Wk_sum_68 : decode prog_6_method_13_code 68 = .ok (.iconst 0, 1) := by decide +kernel
theorem d_Wk_sum_69 : decode prog_6_method_13_code 69 = .ok (.goto 4, 3) := by decide +kernel
theorem d_Wk_sum_72 : decode prog_6_method_13_code 72 = .ok (.iload_n 3, 1) := by decide +kernel
theorem d_Wk_sum_73 : decode prog_6_method_13_code 73 = .ok (.istore 5, 2) := by decide +kernel
theorem d_Wk_sum_75 : decode prog_6_method_13_code 75 = .ok (.iload_n 0, 1) := by decide +kernel
theorem d_Wk_sum_76 : decode prog_6_method_13_code 76 = .ok (.ifCond .ne 8, 3) := by decide +kernel
theorem d_Wk_sum_79 : decode prog_6_method_13_code 79 = .ok (.iload 4, 2) := by decide +kernel
theorem d_Wk_sum_81 : decode prog_6_method_13_code 81 = .ok (.goto 4, 3) := by decide +kernel
theorem d_Wk_sum_84 : decode prog_6_method_13_code 84 = .ok (.iconst 0, 1) := by decide +kernel
theorem d_Wk_sum_85 : decode prog_6_method_13_code 85 = .ok (.istore 6, 2) := by decide +kernel
theorem d_Wk_sum_87 : decode prog_6_method_13_code 87 = .ok (.aload_n 2, 1) := by decide +kernel
theorem d_Wk_sum_88 : decode prog_6_method_13_code 88 = .ok (.iload 5, 2) := by decide +kernel
theorem d_Wk_sum_90 : decode prog_6_method_13_code 90 = .ok (.iload 6, 2) := by decide +kernel
theorem d_Wk_sum_92 : decode prog_6_method_13_code 92 = .ok (.invokevirtual 103, 3) := by decide +kernel
theorem d_Wk_sum_95 : decode prog_6_method_13_code 95 = .ok (.dstore 7, 2) := by decide +kernel
theorem d_Wk_sum_97 : decode prog_6_method_13_code 97 = .ok (.aload_n 1, 1) := by decide +kernel
theorem d_Wk_sum_98 : decode prog_6_method_13_code 98 = .ok (.iload_n 3, 1) := by decide +kernel
theorem d_Wk_sum_99 : decode prog_6_method_13_code 99 = .ok (.iload 4, 2) := by decide +kernel
theorem d_Wk_sum_101 : decode prog_6_method_13_code 101 = .ok (.invokevirtual 103, 3) := by decide +kernel
theorem d_Wk_sum_104 : decode prog_6_method_13_code 104 = .ok (.dstore 9, 2) := by decide +kernel
theorem d_Wk_sum_106 : decode prog_6_method_13_code 106 = .ok (.aload_n 2, 1) := by decide +kernel
theorem d_Wk_sum_107 : decode prog_6_method_13_code 107 = .ok (.iload 5, 2) := by decide +kernel
theorem d_Wk_sum_109 : decode prog_6_method_13_code 109 = .ok (.iload 6, 2) := by decide +kernel
theorem d_Wk_sum_111 : decode prog_6_method_13_code 111 = .ok (.aload_n 1, 1) := by decide +kernel
theorem d_Wk_sum_112 : decode prog_6_method_13_code 112 = .ok (.getfield 84, 3) := by decide +kernel
theorem d_Wk_sum_115 : decode prog_6_method_13_code 115 = .ok (.iconst 1, 1) := by decide +kernel
theorem d_Wk_sum_116 : decode prog_6_method_13_code 116 = .ok (.if_icmp .ne 17, 3) := by decide +kernel
theorem d_Wk_sum_119 : decode prog_6_method_13_code 119 = .ok (.iconst 0, 1) := by decide +kernel
theorem d_Wk_sum_120 : decode prog_6_method_13_code 120 = .ok (.dload 7, 2) := by decide +kernel
theorem d_Wk_sum_122 : decode prog_6_method_13_code 122 = .ok (.d2i, 1) := by decide +kernel
theorem d_Wk_sum_123 : decode prog_6_method_13_code 123 = .ok (.dload 9, 2) := by decide +kernel
theorem d_Wk_sum_125 : decode prog_6_method_13_code 125 = .ok (.d2i, 1) := by decide +kernel
theorem d_Wk_sum_126 : decode prog_6_method_13_code 126 = .ok (.invokestatic 87, 3) := by decide +kernel
theorem d_Wk_sum_129 : decode prog_6_method_13_code 129 = .ok (.i2d, 1) := by decide +kernel
theorem d_Wk_sum_130 : decode prog_6_method_13_code 130 = .ok (.goto 8, 3) := by decide +kernel
theorem d_Wk_sum_133 : decode prog_6_method_13_code 133 = .ok (.dload 7, 2) := by decide +kernel
theorem d_Wk_sum_135 : decode prog_6_method_13_code 135 = .ok (.dload 9, 2) := by decide +kernel
theorem d_Wk_sum_137 : decode prog_6_method_13_code 137 = .ok (.dadd, 1) := by decide +kernel
theorem d_Wk_sum_138 : decode prog_6_method_13_code 138 = .ok (.invokevirtual 95, 3) := by decide +kernel
theorem d_Wk_sum_141 : decode prog_6_method_13_code 141 = .ok (.iinc 4 1, 3) := by decide +kernel
theorem d_Wk_sum_144 : decode prog_6_method_13_code 144 = .ok (.goto (-89), 3) := by decide +kernel
theorem d_Wk_sum_147 : decode prog_6_method_13_code 147 = .ok (.iinc 3 1, 3) := by decide +kernel
theorem d_Wk_sum_150 : decode prog_6_method_13_code 150 = .ok (.goto (-106), 3) := by decide +kernel
theorem d_Wk_sum_153 : decode prog_6_method_13_code 153 = .ok (.return_, 1) := by decide +kernel
theorem d_Wk_pairInts_0 : decode prog_6_method_4_code 0 = .ok (.iload_n 0, 1) := by decide +kernel
theorem d_Wk_pairInts_1 : decode prog_6_method_4_code 1 = .ok (.tableswitch 39 0 2 #[27, 31, 35], 27) := by decide +kernel
theorem d_Wk_pairInts_28 : decode prog_6_method_4_code 28 = .ok (.iload_n 1, 1) := by decide +kernel
theorem d_Wk_pairInts_29 : decode prog_6_method_4_code 29 = .ok (.iload_n 2, 1) := by decide +kernel
theorem d_Wk_pairInts_30 : decode prog_6_method_4_code 30 = .ok (.iadd, 1) := by decide +kernel
theorem d_Wk_pairInts_31 : decode prog_6_method_4_code 31 = .ok (.ireturn, 1) := by decide +kernel
theorem d_Wk_pairInts_32 : decode prog_6_method_4_code 32 = .ok (.iload_n 1, 1) := by decide +kernel
theorem d_Wk_pairInts_33 : decode prog_6_method_4_code 33 = .ok (.iload_n 2, 1) := by decide +kernel
theorem d_Wk_pairInts_34 : decode prog_6_method_4_code 34 = .ok (.isub, 1) := by decide +kernel
theorem d_Wk_pairInts_35 : decode prog_6_method_4_code 35 = .ok (.ireturn, 1) := by decide +kernel
theorem d_Wk_pairInts_36 : decode prog_6_method_4_code 36 = .ok (.iload_n 1, 1) := by decide +kernel
theorem d_Wk_pairInts_37 : decode prog_6_method_4_code 37 = .ok (.iload_n 2, 1) := by decide +kernel
theorem d_Wk_pairInts_38 : decode prog_6_method_4_code 38 = .ok (.imul, 1) := by decide +kernel
theorem d_Wk_pairInts_39 : decode prog_6_method_4_code 39 = .ok (.ireturn, 1) := by decide +kernel
theorem d_Wk_pairInts_40 : decode prog_6_method_4_code 40 = .ok (.iload_n 1, 1) := by decide +kernel
theorem d_Wk_pairInts_41 : decode prog_6_method_4_code 41 = .ok (.iload_n 2, 1) := by decide +kernel
theorem d_Wk_pairInts_42 : decode prog_6_method_4_code 42 = .ok (.if_icmp .ge 7, 3) := by decide +kernel
theorem d_Wk_pairInts_45 : decode prog_6_method_4_code 45 = .ok (.iconst 1, 1) := by decide +kernel
theorem d_Wk_pairInts_46 : decode prog_6_method_4_code 46 = .ok (.goto 4, 3) := by decide +kernel
theorem d_Wk_pairInts_49 : decode prog_6_method_4_code 49 = .ok (.iconst 0, 1) := by decide +kernel
theorem d_Wk_pairInts_50 : decode prog_6_method_4_code 50 = .ok (.ireturn, 1) := by decide +kernel
theorem d_Wk_greatest_0 : decode prog_6_method_14_code 0 = .ok (.iconst 0, 1) := by decide +kernel
theorem d_Wk_greatest_1 : decode prog_6_method_14_code 1 = .ok (.istore_n 3, 1) := by decide +kernel
theorem d_Wk_greatest_2 : decode prog_6_method_14_code 2 = .ok (.iload_n 3, 1) := by decide +kernel
theorem d_Wk_greatest_3 : decode prog_6_method_14_code 3 = .ok (.aload_n 1, 1) := by decide +kernel
theorem d_Wk_greatest_4 : decode prog_6_method_14_code 4 = .ok (.getfield 53, 3) := by decide +kernel
theorem d_Wk_greatest_7 : decode prog_6_method_14_code 7 = .ok (.if_icmp .ge 117, 3) := by decide +kernel
theorem d_Wk_greatest_10 : decode prog_6_method_14_code 10 = .ok (.iconst 0, 1) := by decide +kernel
theorem d_Wk_greatest_11 : decode prog_6_method_14_code 11 = .ok (.istore 4, 2) := by decide +kernel
theorem d_Wk_greatest_13 : decode prog_6_method_14_code 13 = .ok (.iload 4, 2) := by decide +kernel
theorem d_Wk_greatest_15 : decode prog_6_method_14_code 15 = .ok (.aload_n 1, 1) := by decide +kernel
theorem d_Wk_greatest_16 : decode prog_6_method_14_code 16 = .ok (.getfield 58, 3) := by decide +kernel
theorem d_Wk_greatest_19 : decode prog_6_method_14_code 19 = .ok (.if_icmp .ge 99, 3) := by decide +kernel
theorem d_Wk_greatest_22 : decode prog_6_method_14_code 22 = .ok (.iload_n 0, 1) := by decide +kernel
theorem d_Wk_greatest_23 : decode prog_6_method_14_code 23 = .ok (.ifCond .ne 7, 3) := by decide +kernel
theorem d_Wk_greatest_26 : decode prog_6_method_14_code 26 = .ok (.iconst 0, 1) := by decide +kernel
theorem d_Wk_greatest_27 : decode prog_6_method_14_code 27 = .ok (.goto 4, 3) := by decide +kernel
theorem d_Wk_greatest_30 : decode prog_6_method_14_code 30 = .ok (.iload_n 3, 1) := by decide +kernel
theorem d_Wk_greatest_31 : decode prog_6_method_14_code 31 = .ok (.istore 5, 2) := by decide +kernel
theorem d_Wk_greatest_33 : decode prog_6_method_14_code 33 = .ok (.iload_n 0, 1) := by decide +kernel
theorem d_Wk_greatest_34 : decode prog_6_method_14_code 34 = .ok (.ifCond .ne 8, 3) := by decide +kernel
theorem d_Wk_greatest_37 : decode prog_6_method_14_code 37 = .ok (.iload 4, 2) := by decide +kernel
theorem d_Wk_greatest_39 : decode prog_6_method_14_code 39 = .ok (.goto 4, 3) := by decide +kernel
theorem d_Wk_greatest_42 : decode prog_6_method_14_code 42 = .ok (.iconst 0, 1) := by decide +kernel
theorem d_Wk_greatest_43 : decode prog_6_method_14_code 43 = .ok (.istore 6, 2) := by decide +kernel
theorem d_Wk_greatest_45 : decode prog_6_method_14_code 45 = .ok (.iload_n 0, 1) := by decide +kernel
theorem d_Wk_greatest_46 : decode prog_6_method_14_code 46 = .ok (.ifCond .ne 15, 3) := by decide +kernel
theorem d_Wk_greatest_49 : decode prog_6_method_14_code 49 = .ok (.iload_n 3, 1) := by decide +kernel
theorem d_Wk_greatest_50 : decode prog_6_method_14_code 50 = .ok (.ifCond .ne 7, 3) := by decide +kernel
theorem d_Wk_greatest_53 : decode prog_6_method_14_code 53 = .ok (.iconst 1, 1) := by decide +kernel
theorem d_Wk_greatest_54 : decode prog_6_method_14_code 54 = .ok (.goto 17, 3) := by decide +kernel
theorem d_Wk_greatest_57 : decode prog_6_method_14_code 57 = .ok (.iconst 0, 1) := by decide +kernel
theorem d_Wk_greatest_58 : decode prog_6_method_14_code 58 = .ok (.goto 13, 3) := by decide +kernel
theorem d_Wk_greatest_61 : decode prog_6_method_14_code 61 = .ok (.iload 4, 2) := by decide +kernel
theorem d_Wk_greatest_63 : decode prog_6_method_14_code 63 = .ok (.ifCond .ne 7, 3) := by decide +kernel
theorem d_Wk_greatest_66 : decode prog_6_method_14_code 66 = .ok (.iconst 1, 1) := by decide +kernel
theorem d_Wk_greatest_67 : decode prog_6_method_14_code 67 = .ok (.goto 4, 3) := by decide +kernel
theorem d_Wk_greatest_70 : decode prog_6_method_14_code 70 = .ok (.iconst 0, 1) := by decide +kernel
theorem d_Wk_greatest_71 : decode prog_6_method_14_code 71 = .ok (.istore 7, 2) := by decide +kernel
theorem d_Wk_greatest_73 : decode prog_6_method_14_code 73 = .ok (.iload 7, 2) := by decide +kernel
theorem d_Wk_greatest_75 : decode prog_6_method_14_code 75 = .ok (.ifCond .ne 22, 3) := by decide +kernel
theorem d_Wk_greatest_78 : decode prog_6_method_14_code 78 = .ok (.aload_n 1, 1) := by decide +kernel
theorem d_Wk_greatest_79 : decode prog_6_method_14_code 79 = .ok (.iload_n 3, 1) := by decide +kernel
theorem d_Wk_greatest_80 : decode prog_6_method_14_code 80 = .ok (.iload 4, 2) := by decide +kernel
theorem d_Wk_greatest_82 : decode prog_6_method_14_code 82 = .ok (.invokevirtual 103, 3) := by decide +kernel
theorem d_Wk_greatest_85 : decode prog_6_method_14_code 85 = .ok (.aload_n 2, 1) := by decide +kernel
theorem d_Wk_greatest_86 : decode prog_6_method_14_code 86 = .ok (.iload 5, 2) := by decide +kernel
theorem d_Wk_greatest_88 : decode prog_6_method_14_code 88 = .ok (.iload 6, 2) := by decide +kernel
theorem d_Wk_greatest_90 : decode prog_6_method_14_code 90 = .ok (.invokevirtual 103, 3) := by decide +kernel
theorem d_Wk_greatest_93 : decode prog_6_method_14_code 93 = .ok (.dcmp .l, 1) := by decide +kernel
theorem d_Wk_greatest_94 : decode prog_6_method_14_code 94 = .ok (.ifCond .le 18, 3) := by decide +kernel
theorem d_Wk_greatest_97 : decode prog_6_method_14_code 97 = .ok (.aload_n 2, 1) := by decide +kernel
theorem d_Wk_greatest_98 : decode prog_6_method_14_code 98 = .ok (.iload 5, 2) := by decide +kernel
theorem d_Wk_greatest_100 : decode prog_6_method_14_code 100 = .ok (.iload 6, 2) := by decide +kernel
theorem d_Wk_greatest_102 : decode prog_6_method_14_code 102 = .ok (.aload_n 1, 1) := by decide +kernel
theorem d_Wk_greatest_103 : decode prog_6_method_14_code 103 = .ok (.iload_n 3, 1) := by decide +kernel
theorem d_Wk_greatest_104 : decode prog_6_method_14_code 104 = .ok (.iload 4, 2) := by decide +kernel
theorem d_Wk_greatest_106 : decode prog_6_method_14_code 106 = .ok (.invokevirtual 103, 3) := by decide +kernel
theorem d_Wk_greatest_109 : decode prog_6_method_14_code 109 = .ok (.invokevirtual 95, 3) := by decide +kernel
theorem d_Wk_greatest_112 : decode prog_6_method_14_code 112 = .ok (.iinc 4 1, 3) := by decide +kernel
theorem d_Wk_greatest_115 : decode prog_6_method_14_code 115 = .ok (.goto (-102), 3) := by decide +kernel
theorem d_Wk_greatest_118 : decode prog_6_method_14_code 118 = .ok (.iinc 3 1, 3) := by decide +kernel
theorem d_Wk_greatest_121 : decode prog_6_method_14_code 121 = .ok (.goto (-119), 3) := by decide +kernel
theorem d_Wk_greatest_124 : decode prog_6_method_14_code 124 = .ok (.return_, 1) := by decide +kernel
theorem d_Wk_firstGreatest_0 : decode prog_6_method_15_code 0 = .ok (.iconst 0, 1) := by decide +kernel
theorem d_Wk_firstGreatest_1 : decode prog_6_method_15_code 1 = .ok (.istore_n 2, 1) := by decide +kernel
theorem d_Wk_firstGreatest_2 : decode prog_6_method_15_code 2 = .ok (.iload_n 2, 1) := by decide +kernel
theorem d_Wk_firstGreatest_3 : decode prog_6_method_15_code 3 = .ok (.aload_n 0, 1) := by decide +kernel
theorem d_Wk_firstGreatest_4 : decode prog_6_method_15_code 4 = .ok (.getfield 53, 3) := by decide +kernel
theorem d_Wk_firstGreatest_7 : decode prog_6_method_15_code 7 = .ok (.if_icmp .ge 57, 3) := by decide +kernel
theorem d_Wk_firstGreatest_10 : decode prog_6_method_15_code 10 = .ok (.iconst 0, 1) := by decide +kernel
theorem d_Wk_firstGreatest_11 : decode prog_6_method_15_code 11 = .ok (.istore_n 3, 1) := by decide +kernel
theorem d_Wk_firstGreatest_12 : decode prog_6_method_15_code 12 = .ok (.iconst 1, 1) := by decide +kernel
theorem d_Wk_firstGreatest_13 : decode prog_6_method_15_code 13 = .ok (.istore 4, 2) := by decide +kernel
theorem d_Wk_firstGreatest_15 : decode prog_6_method_15_code 15 = .ok (.iload 4, 2) := by decide +kernel
theorem d_Wk_firstGreatest_17 : decode prog_6_method_15_code 17 = .ok (.aload_n 0, 1) := by decide +kernel
theorem d_Wk_firstGreatest_18 : decode prog_6_method_15_code 18 = .ok (.getfield 58, 3) := by decide +kernel
theorem d_Wk_firstGreatest_21 : decode prog_6_method_15_code 21 = .ok (.if_icmp .ge 29, 3) := by decide +kernel
theorem d_Wk_firstGreatest_24 : decode prog_6_method_15_code 24 = .ok (.aload_n 0, 1) := by decide +kernel
theorem d_Wk_firstGreatest_25 : decode prog_6_method_15_code 25 = .ok (.iload_n 2, 1) := by decide +kernel
theorem d_Wk_firstGreatest_26 : decode prog_6_method_15_code 26 = .ok (.iload 4, 2) := by decide +kernel
theorem d_Wk_firstGreatest_28 : decode prog_6_method_15_code 28 = .ok (.invokevirtual 103, 3) := by decide +kernel
theorem d_Wk_firstGreatest_31 : decode prog_6_method_15_code 31 = .ok (.aload_n 0, 1) := by decide +kernel
theorem d_Wk_firstGreatest_32 : decode prog_6_method_15_code 32 = .ok (.iload_n 2, 1) := by decide +kernel
theorem d_Wk_firstGreatest_33 : decode prog_6_method_15_code 33 = .ok (.iload_n 3, 1) := by decide +kernel
theorem d_Wk_firstGreatest_34 : decode prog_6_method_15_code 34 = .ok (.invokevirtual 103, 3) := by decide +kernel
theorem d_Wk_firstGreatest_37 : decode prog_6_method_15_code 37 = .ok (.dcmp .l, 1) := by decide +kernel
theorem d_Wk_firstGreatest_38 : decode prog_6_method_15_code 38 = .ok (.ifCond .le 6, 3) := by decide +kernel
theorem d_Wk_firstGreatest_41 : decode prog_6_method_15_code 41 = .ok (.iload 4, 2) := by decide +kernel
theorem d_Wk_firstGreatest_43 : decode prog_6_method_15_code 43 = .ok (.istore_n 3, 1) := by decide +kernel
theorem d_Wk_firstGreatest_44 : decode prog_6_method_15_code 44 = .ok (.iinc 4 1, 3) := by decide +kernel
theorem d_Wk_firstGreatest_47 : decode prog_6_method_15_code 47 = .ok (.goto (-32), 3) := by decide +kernel
theorem d_Wk_firstGreatest_50 : decode prog_6_method_15_code 50 = .ok (.aload_n 1, 1) := by decide +kernel
theorem d_Wk_firstGreatest_51 : decode prog_6_method_15_code 51 = .ok (.iload_n 2, 1) := by decide +kernel
theorem d_Wk_firstGreatest_52 : decode prog_6_method_15_code 52 = .ok (.iconst 0, 1) := by decide +kernel
theorem d_Wk_firstGreatest_53 : decode prog_6_method_15_code 53 = .ok (.iload_n 3, 1) := by decide +kernel
theorem d_Wk_firstGreatest_54 : decode prog_6_method_15_code 54 = .ok (.i2d, 1) := by decide +kernel
theorem d_Wk_firstGreatest_55 : decode prog_6_method_15_code 55 = .ok (.invokevirtual 95, 3) := by decide +kernel
theorem d_Wk_firstGreatest_58 : decode prog_6_method_15_code 58 = .ok (.iinc 2 1, 3) := by decide +kernel
theorem d_Wk_firstGreatest_61 : decode prog_6_method_15_code 61 = .ok (.goto (-59), 3) := by decide +kernel
theorem d_Wk_firstGreatest_64 : decode prog_6_method_15_code 64 = .ok (.return_, 1) := by decide +kernel
theorem d_Wk_copy_0 : decode prog_6_method_16_code 0 = .ok (.iconst 0, 1) := by decide +kernel
theorem d_Wk_copy_1 : decode prog_6_method_16_code 1 = .ok (.istore 4, 2) := by decide +kernel
theorem d_Wk_copy_3 : decode prog_6_method_16_code 3 = .ok (.iload 4, 2) := by decide +kernel
theorem d_Wk_copy_5 : decode prog_6_method_16_code 5 = .ok (.aload_n 0, 1) := by decide +kernel
theorem d_Wk_copy_6 : decode prog_6_method_16_code 6 = .ok (.getfield 53, 3) := by decide +kernel
theorem d_Wk_copy_9 : decode prog_6_method_16_code 9 = .ok (.if_icmp .ge 47, 3) := by decide +kernel
theorem d_Wk_copy_12 : decode prog_6_method_16_code 12 = .ok (.iconst 0, 1) := by decide +kernel
theorem d_Wk_copy_13 : decode prog_6_method_16_code 13 = .ok (.istore 5, 2) := by decide +kernel
theorem d_Wk_copy_15 : decode prog_6_method_16_code 15 = .ok (.iload 5, 2) := by decide +kernel
theorem d_Wk_copy_17 : decode prog_6_method_16_code 17 = .ok (.aload_n 0, 1) := by decide +kernel
theorem d_Wk_copy_18 : decode prog_6_method_16_code 18 = .ok (.getfield 58, 3) := by decide +kernel
theorem d_Wk_copy_21 : decode prog_6_method_16_code 21 = .ok (.if_icmp .ge 29, 3) := by decide +kernel
theorem d_Wk_copy_24 : decode prog_6_method_16_code 24 = .ok (.aload_n 1, 1) := by decide +kernel
theorem d_Wk_copy_25 : decode prog_6_method_16_code 25 = .ok (.iload_n 2, 1) := by decide +kernel
theorem d_Wk_copy_26 : decode prog_6_method_16_code 26 = .ok (.iload 4, 2) := by decide +kernel
theorem d_Wk_copy_28 : decode prog_6_method_16_code 28 = .ok (.iadd, 1) := by decide +kernel
theorem d_Wk_copy_29 : decode prog_6_method_16_code 29 = .ok (.iload_n 3, 1) := by decide +kernel
theorem d_Wk_copy_30 : decode prog_6_method_16_code 30 = .ok (.iload 5, 2) := by decide +kernel
theorem d_Wk_copy_32 : decode prog_6_method_16_code 32 = .ok (.iadd, 1) := by decide +kernel
theorem d_Wk_copy_33 : decode prog_6_method_16_code 33 = .ok (.aload_n 0, 1) := by decide +kernel
theorem d_Wk_copy_34 : decode prog_6_method_16_code 34 = .ok (.iload 4, 2) := by decide +kernel
theorem d_Wk_copy_36 : decode prog_6_method_16_code 36 = .ok (.iload 5, 2) := by decide +kernel
theorem d_Wk_copy_38 : decode prog_6_method_16_code 38 = .ok (.invokevirtual 103, 3) := by decide +kernel
theorem d_Wk_copy_41 : decode prog_6_method_16_code 41 = .ok (.invokevirtual 95, 3) := by decide +kernel
theorem d_Wk_copy_44 : decode prog_6_method_16_code 44 = .ok (.iinc 5 1, 3) := by decide +kernel
theorem d_Wk_copy_47 : decode prog_6_method_16_code 47 = .ok (.goto (-32), 3) := by decide +kernel
theorem d_Wk_copy_50 : decode prog_6_method_16_code 50 = .ok (.iinc 4 1, 3) := by decide +kernel
theorem d_Wk_copy_53 : decode prog_6_method_16_code 53 = .ok (.goto (-50), 3) := by decide +kernel
theorem d_Wk_copy_56 : decode prog_6_method_16_code 56 = .ok (.return_, 1) := by decide +kernel
theorem d_Wk_cut_0 : decode prog_6_method_17_code 0 = .ok (.iconst 0, 1) := by decide +kernel
theorem d_Wk_cut_1 : decode prog_6_method_17_code 1 = .ok (.istore_n 3, 1) := by decide +kernel
theorem d_Wk_cut_2 : decode prog_6_method_17_code 2 = .ok (.iload_n 3, 1) := by decide +kernel
theorem d_Wk_cut_3 : decode prog_6_method_17_code 3 = .ok (.aload_n 2, 1) := by decide +kernel
theorem d_Wk_cut_4 : decode prog_6_method_17_code 4 = .ok (.getfield 53, 3) := by decide +kernel
theorem d_Wk_cut_7 : decode prog_6_method_17_code 7 = .ok (.if_icmp .ge 18, 3) := by decide +kernel
theorem d_Wk_cut_10 : decode prog_6_method_17_code 10 = .ok (.aload_n 1, 1) := by decide +kernel
theorem d_Wk_cut_11 : decode prog_6_method_17_code 11 = .ok (.iload_n 0, 1) := by decide +kernel
theorem d_Wk_cut_12 : decode prog_6_method_17_code 12 = .ok (.iload_n 3, 1) := by decide +kernel
theorem d_Wk_cut_13 : decode prog_6_method_17_code 13 = .ok (.iadd, 1) := by decide +kernel
theorem d_Wk_cut_14 : decode prog_6_method_17_code 14 = .ok (.aload_n 2, 1) := by decide +kernel
theorem d_Wk_cut_15 : decode prog_6_method_17_code 15 = .ok (.iload_n 3, 1) := by decide +kernel
theorem d_Wk_cut_16 : decode prog_6_method_17_code 16 = .ok (.invokestatic 113, 3) := by decide +kernel
theorem d_Wk_cut_19 : decode prog_6_method_17_code 19 = .ok (.iinc 3 1, 3) := by decide +kernel
theorem d_Wk_cut_22 : decode prog_6_method_17_code 22 = .ok (.goto (-20), 3) := by decide +kernel
theorem d_Wk_cut_25 : decode prog_6_method_17_code 25 = .ok (.return_, 1) := by decide +kernel
theorem d_Wk_slide_0 : decode prog_6_method_20_code 0 = .ok (.iconst 0, 1) := by decide +kernel
theorem d_Wk_slide_1 : decode prog_6_method_20_code 1 = .ok (.istore 4, 2) := by decide +kernel
theorem d_Wk_slide_3 : decode prog_6_method_20_code 3 = .ok (.iload 4, 2) := by decide +kernel
theorem d_Wk_slide_5 : decode prog_6_method_20_code 5 = .ok (.aload_n 3, 1) := by decide +kernel
theorem d_Wk_slide_6 : decode prog_6_method_20_code 6 = .ok (.getfield 53, 3) := by decide +kernel
theorem d_Wk_slide_9 : decode prog_6_method_20_code 9 = .ok (.if_icmp .ge 111, 3) := by decide +kernel
theorem d_Wk_slide_12 : decode prog_6_method_20_code 12 = .ok (.iconst 0, 1) := by decide +kernel
theorem d_Wk_slide_13 : decode prog_6_method_20_code 13 = .ok (.istore 5, 2) := by decide +kernel
theorem d_Wk_slide_15 : decode prog_6_method_20_code 15 = .ok (.iload 5, 2) := by decide +kernel
theorem d_Wk_slide_17 : decode prog_6_method_20_code 17 = .ok (.aload_n 3, 1) := by decide +kernel
theorem d_Wk_slide_18 : decode prog_6_method_20_code 18 = .ok (.getfield 58, 3) := by decide +kernel
theorem d_Wk_slide_21 : decode prog_6_method_20_code 21 = .ok (.if_icmp .ge 93, 3) := by decide +kernel
theorem d_Wk_slide_24 : decode prog_6_method_20_code 24 = .ok (.dconst 0, 1) := by decide +kernel
theorem d_Wk_slide_25 : decode prog_6_method_20_code 25 = .ok (.dstore 6, 2) := by decide +kernel
theorem d_Wk_slide_27 : decode prog_6_method_20_code 27 = .ok (.iconst 0, 1) := by decide +kernel
theorem d_Wk_slide_28 : decode prog_6_method_20_code 28 = .ok (.istore 8, 2) := by decide +kernel
theorem d_Wk_slide_30 : decode prog_6_method_20_code 30 = .ok (.iload 8, 2) := by decide +kernel
theorem d_Wk_slide_32 : decode prog_6_method_20_code 32 = .ok (.aload_n 2, 1) := by decide +kernel
theorem d_Wk_slide_33 : decode prog_6_method_20_code 33 = .ok (.getfield 58, 3) := by decide +kernel
theorem d_Wk_slide_36 : decode prog_6_method_20_code 36 = .ok (.if_icmp .ge 62, 3) := by decide +kernel
theorem d_Wk_slide_39 : decode prog_6_method_20_code 39 = .ok (.iload 5, 2) := by decide +kernel
theorem d_Wk_slide_41 : decode prog_6_method_20_code 41 = .ok (.aload_n 0, 1) := by decide +kernel
theorem d_Wk_slide_42 : decode prog_6_method_20_code 42 = .ok (.getfield 36, 3) := by decide +kernel
theorem d_Wk_slide_45 : decode prog_6_method_20_code 45 = .ok (.imul, 1) := by decide +kernel
theorem d_Wk_slide_46 : decode prog_6_method_20_code 46 = .ok (.iload 8, 2) := by decide +kernel
theorem d_Wk_slide_48 : decode prog_6_method_20_code 48 = .ok (.iadd, 1) := by decide +kernel
theorem d_Wk_slide_49 : decode prog_6_method_20_code 49 = .ok (.aload_n 0, 1) := by decide +kernel
theorem d_Wk_slide_50 : decode prog_6_method_20_code 50 = .ok (.getfield 110, 3) := by decide +kernel
theorem d_Wk_slide_53 : decode prog_6_method_20_code 53 = .ok (.isub, 1) := by decide +kernel
theorem d_Wk_slide_54 : decode prog_6_method_20_code 54 = .ok (.istore 9, 2) := by decide +kernel
theorem d_Wk_slide_56 : decode prog_6_method_20_code 56 = .ok (.dload 6, 2) := by decide +kernel
theorem d_Wk_slide_58 : decode prog_6_method_20_code 58 = .ok (.aload_n 1, 1) := by decide +kernel
theorem d_Wk_slide_59 : decode prog_6_method_20_code 59 = .ok (.iload 4, 2) := by decide +kernel
theorem d_Wk_slide_61 : decode prog_6_method_20_code 61 = .ok (.iload 9, 2) := by decide +kernel
theorem d_Wk_slide_63 : decode prog_6_method_20_code 63 = .ok (.invokevirtual 117, 3) := by decide +kernel
theorem d_Wk_slide_66 : decode prog_6_method_20_code 66 = .ok (.ifCond .eq 14, 3) := by decide +kernel
theorem d_Wk_slide_69 : decode prog_6_method_20_code 69 = .ok (.aload_n 1, 1) := by decide +kernel
theorem d_Wk_slide_70 : decode prog_6_method_20_code 70 = .ok (.iload 4, 2) := by decide +kernel
theorem d_Wk_slide_72 : decode prog_6_method_20_code 72 = .ok (.iload 9, 2) := by decide +kernel
theorem d_Wk_slide_74 : decode prog_6_method_20_code 74 = .ok (.invokevirtual 103, 3) := by decide +kernel
theorem d_Wk_slide_77 : decode prog_6_method_20_code 77 = .ok (.goto 4, 3) := by decide +kernel
theorem d_Wk_slide_80 : decode prog_6_method_20_code 80 = .ok (.dconst 0, 1) := by decide +kernel
theorem d_Wk_slide_81 : decode prog_6_method_20_code 81 = .ok (.aload_n 2, 1) := by decide +kernel
theorem d_Wk_slide_82 : decode prog_6_method_20_code 82 = .ok (.iconst 0, 1) := by decide +kernel
theorem d_Wk_slide_83 : decode prog_6_method_20_code 83 = .ok (.iload 8, 2) := by decide +kernel
theorem d_Wk_slide_85 : decode prog_6_method_20_code 85 = .ok (.invokevirtual 103, 3) := by decide +kernel
theorem d_Wk_slide_88 : decode prog_6_method_20_code 88 = .ok (.dmul, 1) := by decide +kernel
theorem d_Wk_slide_89 : decode prog_6_method_20_code 89 = .ok (.dadd, 1) := by decide +kernel
theorem d_Wk_slide_90 : decode prog_6_method_20_code 90 = .ok (.dstore 6, 2) := by decide +kernel
theorem d_Wk_slide_92 : decode prog_6_method_20_code 92 = .ok (.iinc 8 1, 3) := by decide +kernel
theorem d_Wk_slide_95 : decode prog_6_method_20_code 95 = .ok (.goto (-65), 3) := by decide +kernel
theorem d_Wk_slide_98 : decode prog_6_method_20_code 98 = .ok (.aload_n 3, 1) := by decide +kernel
theorem d_Wk_slide_99 : decode prog_6_method_20_code 99 = .ok (.iload 4, 2) := by decide +kernel
theorem d_Wk_slide_101 : decode prog_6_method_20_code 101 = .ok (.iload 5, 2) := by decide +kernel
theorem d_Wk_slide_103 : decode prog_6_method_20_code 103 = .ok (.dload 6, 2) := by decide +kernel
theorem d_Wk_slide_105 : decode prog_6_method_20_code 105 = .ok (.invokevirtual 95, 3) := by decide +kernel
theorem d_Wk_slide_108 : decode prog_6_method_20_code 108 = .ok (.iinc 5 1, 3) := by decide +kernel
theorem d_Wk_slide_111 : decode prog_6_method_20_code 111 = .ok (.goto (-96), 3) := by decide +kernel
theorem d_Wk_slide_114 : decode prog_6_method_20_code 114 = .ok (.iinc 4 1, 3) := by decide +kernel
theorem d_Wk_slide_117 : decode prog_6_method_20_code 117 = .ok (.goto (-114), 3) := by decide +kernel
theorem d_Wk_slide_120 : decode prog_6_method_20_code 120 = .ok (.return_, 1) := by decide +kernel
theorem d_Wk_workEach_0 : decode prog_6_method_9_code 0 = .ok (.iconst 0, 1) := by decide +kernel
theorem d_Wk_workEach_1 : decode prog_6_method_9_code 1 = .ok (.istore_n 3, 1) := by decide +kernel
theorem d_Wk_workEach_2 : decode prog_6_method_9_code 2 = .ok (.iload_n 3, 1) := by decide +kernel
theorem d_Wk_workEach_3 : decode prog_6_method_9_code 3 = .ok (.aload_n 2, 1) := by decide +kernel
theorem d_Wk_workEach_4 : decode prog_6_method_9_code 4 = .ok (.getfield 53, 3) := by decide +kernel
theorem d_Wk_workEach_7 : decode prog_6_method_9_code 7 = .ok (.if_icmp .ge 45, 3) := by decide +kernel
theorem d_Wk_workEach_10 : decode prog_6_method_9_code 10 = .ok (.iconst 0, 1) := by decide +kernel
theorem d_Wk_workEach_11 : decode prog_6_method_9_code 11 = .ok (.istore 4, 2) := by decide +kernel
theorem d_Wk_workEach_13 : decode prog_6_method_9_code 13 = .ok (.iload 4, 2) := by decide +kernel
theorem d_Wk_workEach_15 : decode prog_6_method_9_code 15 = .ok (.aload_n 2, 1) := by decide +kernel
theorem d_Wk_workEach_16 : decode prog_6_method_9_code 16 = .ok (.getfield 58, 3) := by decide +kernel
theorem d_Wk_workEach_19 : decode prog_6_method_9_code 19 = .ok (.if_icmp .ge 27, 3) := by decide +kernel
theorem d_Wk_workEach_22 : decode prog_6_method_9_code 22 = .ok (.aload_n 2, 1) := by decide +kernel
theorem d_Wk_workEach_23 : decode prog_6_method_9_code 23 = .ok (.iload_n 3, 1) := by decide +kernel
theorem d_Wk_workEach_24 : decode prog_6_method_9_code 24 = .ok (.iload 4, 2) := by decide +kernel
theorem d_Wk_workEach_26 : decode prog_6_method_9_code 26 = .ok (.aload_n 0, 1) := by decide +kernel
theorem d_Wk_workEach_27 : decode prog_6_method_9_code 27 = .ok (.aload_n 1, 1) := by decide +kernel
theorem d_Wk_workEach_28 : decode prog_6_method_9_code 28 = .ok (.iload_n 3, 1) := by decide +kernel
theorem d_Wk_workEach_29 : decode prog_6_method_9_code 29 = .ok (.iload 4, 2) := by decide +kernel
theorem d_Wk_workEach_31 : decode prog_6_method_9_code 31 = .ok (.invokevirtual 103, 3) := by decide +kernel
theorem d_Wk_workEach_34 : decode prog_6_method_9_code 34 = .ok (.invokestatic 106, 3) := by decide +kernel
theorem d_Wk_workEach_37 : decode prog_6_method_9_code 37 = .ok (.invokevirtual 95, 3) := by decide +kernel
