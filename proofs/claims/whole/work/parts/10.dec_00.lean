theorem d_Tb_init_0 : decode prog_5_method_1_code 0 = .ok (.aload_n 0, 1) := by decide +kernel
theorem d_Tb_init_1 : decode prog_5_method_1_code 1 = .ok (.invokespecial 3, 3) := by decide +kernel
theorem d_Tb_init_4 : decode prog_5_method_1_code 4 = .ok (.aload_n 0, 1) := by decide +kernel
theorem d_Tb_init_5 : decode prog_5_method_1_code 5 = .ok (.bipush 16, 2) := by decide +kernel
theorem d_Tb_init_7 : decode prog_5_method_1_code 7 = .ok (.newarray .double, 2) := by decide +kernel
theorem d_Tb_init_9 : decode prog_5_method_1_code 9 = .ok (.putfield 9, 3) := by decide +kernel
theorem d_Tb_init_12 : decode prog_5_method_1_code 12 = .ok (.aload_n 0, 1) := by decide +kernel
theorem d_Tb_init_13 : decode prog_5_method_1_code 13 = .ok (.iconst 0, 1) := by decide +kernel
theorem d_Tb_init_14 : decode prog_5_method_1_code 14 = .ok (.putfield 15, 3) := by decide +kernel
theorem d_Tb_init_17 : decode prog_5_method_1_code 17 = .ok (.aload_n 0, 1) := by decide +kernel
theorem d_Tb_init_18 : decode prog_5_method_1_code 18 = .ok (.iconst 1, 1) := by decide +kernel
theorem d_Tb_init_19 : decode prog_5_method_1_code 19 = .ok (.putfield 19, 3) := by decide +kernel
theorem d_Tb_init_22 : decode prog_5_method_1_code 22 = .ok (.aload_n 0, 1) := by decide +kernel
theorem d_Tb_init_23 : decode prog_5_method_1_code 23 = .ok (.iconst 1, 1) := by decide +kernel
theorem d_Tb_init_24 : decode prog_5_method_1_code 24 = .ok (.putfield 22, 3) := by decide +kernel
theorem d_Tb_init_27 : decode prog_5_method_1_code 27 = .ok (.return_, 1) := by decide +kernel
theorem d_Tb_shape_0 : decode prog_5_method_2_code 0 = .ok (.iload_n 2, 1) := by decide +kernel
theorem d_Tb_shape_1 : decode prog_5_method_2_code 1 = .ok (.invokestatic 25, 3) := by decide +kernel
theorem d_Tb_shape_4 : decode prog_5_method_2_code 4 = .ok (.ifCond .eq 10, 3) := by decide +kernel
theorem d_Tb_shape_7 : decode prog_5_method_2_code 7 = .ok (.iload_n 3, 1) := by decide +kernel
theorem d_Tb_shape_8 : decode prog_5_method_2_code 8 = .ok (.invokestatic 25, 3) := by decide +kernel
theorem d_Tb_shape_11 : decode prog_5_method_2_code 11 = .ok (.ifCond .ne 5, 3) := by decide +kernel
theorem d_Tb_shape_14 : decode prog_5_method_2_code 14 = .ok (.iconst 0, 1) := by decide +kernel
theorem d_Tb_shape_15 : decode prog_5_method_2_code 15 = .ok (.ireturn, 1) := by decide +kernel
theorem d_Tb_shape_16 : decode prog_5_method_2_code 16 = .ok (.aload_n 0, 1) := by decide +kernel
theorem d_Tb_shape_17 : decode prog_5_method_2_code 17 = .ok (.iload_n 1, 1) := by decide +kernel
theorem d_Tb_shape_18 : decode prog_5_method_2_code 18 = .ok (.putfield 15, 3) := by decide +kernel
theorem d_Tb_shape_21 : decode prog_5_method_2_code 21 = .ok (.aload_n 0, 1) := by decide +kernel
theorem d_Tb_shape_22 : decode prog_5_method_2_code 22 = .ok (.iload_n 2, 1) := by decide +kernel
theorem d_Tb_shape_23 : decode prog_5_method_2_code 23 = .ok (.putfield 19, 3) := by decide +kernel
theorem d_Tb_shape_26 : decode prog_5_method_2_code 26 = .ok (.aload_n 0, 1) := by decide +kernel
theorem d_Tb_shape_27 : decode prog_5_method_2_code 27 = .ok (.iload_n 3, 1) := by decide +kernel
theorem d_Tb_shape_28 : decode prog_5_method_2_code 28 = .ok (.putfield 22, 3) := by decide +kernel
theorem d_Tb_shape_31 : decode prog_5_method_2_code 31 = .ok (.iconst 1, 1) := by decide +kernel
theorem d_Tb_shape_32 : decode prog_5_method_2_code 32 = .ok (.ireturn, 1) := by decide +kernel
theorem d_Tb_clear_0 : decode prog_5_method_3_code 0 = .ok (.iconst 0, 1) := by decide +kernel
theorem d_Tb_clear_1 : decode prog_5_method_3_code 1 = .ok (.istore_n 1, 1) := by decide +kernel
theorem d_Tb_clear_2 : decode prog_5_method_3_code 2 = .ok (.iload_n 1, 1) := by decide +kernel
theorem d_Tb_clear_3 : decode prog_5_method_3_code 3 = .ok (.aload_n 0, 1) := by decide +kernel
theorem d_Tb_clear_4 : decode prog_5_method_3_code 4 = .ok (.getfield 9, 3) := by decide +kernel
theorem d_Tb_clear_7 : decode prog_5_method_3_code 7 = .ok (.arraylength, 1) := by decide +kernel
theorem d_Tb_clear_8 : decode prog_5_method_3_code 8 = .ok (.if_icmp .ge 16, 3) := by decide +kernel
theorem d_Tb_clear_11 : decode prog_5_method_3_code 11 = .ok (.aload_n 0, 1) := by decide +kernel
theorem d_Tb_clear_12 : decode prog_5_method_3_code 12 = .ok (.getfield 9, 3) := by decide +kernel
theorem d_Tb_clear_15 : decode prog_5_method_3_code 15 = .ok (.iload_n 1, 1) := by decide +kernel
theorem d_Tb_clear_16 : decode prog_5_method_3_code 16 = .ok (.dconst 0, 1) := by decide +kernel
theorem d_Tb_clear_17 : decode prog_5_method_3_code 17 = .ok (.dastore, 1) := by decide +kernel
theorem d_Tb_clear_18 : decode prog_5_method_3_code 18 = .ok (.iinc 1 1, 3) := by decide +kernel
theorem d_Tb_clear_21 : decode prog_5_method_3_code 21 = .ok (.goto (-19), 3) := by decide +kernel
theorem d_Tb_clear_24 : decode prog_5_method_3_code 24 = .ok (.return_, 1) := by decide +kernel
theorem d_Tb_has_0 : decode prog_5_method_4_code 0 = .ok (.iload_n 1, 1) := by decide +kernel
theorem d_Tb_has_1 : decode prog_5_method_4_code 1 = .ok (.ifCond .lt 27, 3) := by decide +kernel
theorem d_Tb_has_4 : decode prog_5_method_4_code 4 = .ok (.iload_n 1, 1) := by decide +kernel
theorem d_Tb_has_5 : decode prog_5_method_4_code 5 = .ok (.aload_n 0, 1) := by decide +kernel
theorem d_Tb_has_6 : decode prog_5_method_4_code 6 = .ok (.getfield 19, 3) := by decide +kernel
theorem d_Tb_has_9 : decode prog_5_method_4_code 9 = .ok (.if_icmp .ge 19, 3) := by decide +kernel
theorem d_Tb_has_12 : decode prog_5_method_4_code 12 = .ok (.iload_n 2, 1) := by decide +kernel
theorem d_Tb_has_13 : decode prog_5_method_4_code 13 = .ok (.ifCond .lt 15, 3) := by decide +kernel
theorem d_Tb_has_16 : decode prog_5_method_4_code 16 = .ok (.iload_n 2, 1) := by decide +kernel
theorem d_Tb_has_17 : decode prog_5_method_4_code 17 = .ok (.aload_n 0, 1) := by decide +kernel
theorem d_Tb_has_18 : decode prog_5_method_4_code 18 = .ok (.getfield 22, 3) := by decide +kernel
theorem d_Tb_has_21 : decode prog_5_method_4_code 21 = .ok (.if_icmp .ge 7, 3) := by decide +kernel
theorem d_Tb_has_24 : decode prog_5_method_4_code 24 = .ok (.iconst 1, 1) := by decide +kernel
theorem d_Tb_has_25 : decode prog_5_method_4_code 25 = .ok (.goto 4, 3) := by decide +kernel
theorem d_Tb_has_28 : decode prog_5_method_4_code 28 = .ok (.iconst 0, 1) := by decide +kernel
theorem d_Tb_has_29 : decode prog_5_method_4_code 29 = .ok (.ireturn, 1) := by decide +kernel
theorem d_Tb_put_0 : decode prog_5_method_7_code 0 = .ok (.aload_n 0, 1) := by decide +kernel
theorem d_Tb_put_1 : decode prog_5_method_7_code 1 = .ok (.getfield 9, 3) := by decide +kernel
theorem d_Tb_put_4 : decode prog_5_method_7_code 4 = .ok (.iload_n 1, 1) := by decide +kernel
theorem d_Tb_put_5 : decode prog_5_method_7_code 5 = .ok (.iconst 4, 1) := by decide +kernel
theorem d_Tb_put_6 : decode prog_5_method_7_code 6 = .ok (.imul, 1) := by decide +kernel
theorem d_Tb_put_7 : decode prog_5_method_7_code 7 = .ok (.iload_n 2, 1) := by decide +kernel
theorem d_Tb_put_8 : decode prog_5_method_7_code 8 = .ok (.iadd, 1) := by decide +kernel
theorem d_Tb_put_9 : decode prog_5_method_7_code 9 = .ok (.dload_n 3, 1) := by decide +kernel
theorem d_Tb_put_10 : decode prog_5_method_7_code 10 = .ok (.dastore, 1) := by decide +kernel
theorem d_Tb_put_11 : decode prog_5_method_7_code 11 = .ok (.return_, 1) := by decide +kernel
theorem d_Tb_atAgain_0 : decode prog_5_method_6_code 0 = .ok (.aload_n 0, 1) := by decide +kernel
theorem d_Tb_atAgain_1 : decode prog_5_method_6_code 1 = .ok (.getfield 9, 3) := by decide +kernel
theorem d_Tb_atAgain_4 : decode prog_5_method_6_code 4 = .ok (.aload_n 0, 1) := by decide +kernel
theorem d_Tb_atAgain_5 : decode prog_5_method_6_code 5 = .ok (.getfield 19, 3) := by decide +kernel
theorem d_Tb_atAgain_8 : decode prog_5_method_6_code 8 = .ok (.iconst 1, 1) := by decide +kernel
theorem d_Tb_atAgain_9 : decode prog_5_method_6_code 9 = .ok (.if_icmp .ne 7, 3) := by decide +kernel
theorem d_Tb_atAgain_12 : decode prog_5_method_6_code 12 = .ok (.iconst 0, 1) := by decide +kernel
theorem d_Tb_atAgain_13 : decode prog_5_method_6_code 13 = .ok (.goto 4, 3) := by decide +kernel
theorem d_Tb_atAgain_16 : decode prog_5_method_6_code 16 = .ok (.iload_n 1, 1) := by decide +kernel
theorem d_Tb_atAgain_17 : decode prog_5_method_6_code 17 = .ok (.iconst 4, 1) := by decide +kernel
theorem d_Tb_atAgain_18 : decode prog_5_method_6_code 18 = .ok (.imul, 1) := by decide +kernel
theorem d_Tb_atAgain_19 : decode prog_5_method_6_code 19 = .ok (.aload_n 0, 1) := by decide +kernel
theorem d_Tb_atAgain_20 : decode prog_5_method_6_code 20 = .ok (.getfield 22, 3) := by decide +kernel
theorem d_Tb_atAgain_23 : decode prog_5_method_6_code 23 = .ok (.iconst 1, 1) := by decide +kernel
theorem d_Tb_atAgain_24 : decode prog_5_method_6_code 24 = .ok (.if_icmp .ne 7, 3) := by decide +kernel
theorem d_Tb_atAgain_27 : decode prog_5_method_6_code 27 = .ok (.iconst 0, 1) := by decide +kernel
theorem d_Tb_atAgain_28 : decode prog_5_method_6_code 28 = .ok (.goto 4, 3) := by decide +kernel
theorem d_Tb_atAgain_31 : decode prog_5_method_6_code 31 = .ok (.iload_n 2, 1) := by decide +kernel
theorem d_Tb_atAgain_32 : decode prog_5_method_6_code 32 = .ok (.iadd, 1) := by decide +kernel
theorem d_Tb_atAgain_33 : decode prog_5_method_6_code 33 = .ok (.daload, 1) := by decide +kernel
theorem d_Tb_atAgain_34 : decode prog_5_method_6_code 34 = .ok (.dreturn, 1) := by decide +kernel
theorem d_Tb_at_0 : decode prog_5_method_5_code 0 = .ok (.aload_n 0, 1) := by decide +kernel
theorem d_Tb_at_1 : decode prog_5_method_5_code 1 = .ok (.getfield 9, 3) := by decide +kernel
theorem d_Tb_at_4 : decode prog_5_method_5_code 4 = .ok (.iload_n 1, 1) := by decide +kernel
theorem d_Tb_at_5 : decode prog_5_method_5_code 5 = .ok (.iconst 4, 1) := by decide +kernel
theorem d_Tb_at_6 : decode prog_5_method_5_code 6 = .ok (.imul, 1) := by decide +kernel
theorem d_Tb_at_7 : decode prog_5_method_5_code 7 = .ok (.iload_n 2, 1) := by decide +kernel
theorem d_Tb_at_8 : decode prog_5_method_5_code 8 = .ok (.iadd, 1) := by decide +kernel
theorem d_Tb_at_9 : decode prog_5_method_5_code 9 = .ok (.daload, 1) := by decide +kernel
theorem d_Tb_at_10 : decode prog_5_method_5_code 10 = .ok (.dreturn, 1) := by decide +kernel
theorem d_Tb_isZero_0 : decode prog_5_method_8_code 0 = .ok (.aload_n 0, 1) := by decide +kernel
theorem d_Tb_isZero_1 : decode prog_5_method_8_code 1 = .ok (.iconst 0, 1) := by decide +kernel
theorem d_Tb_isZero_2 : decode prog_5_method_8_code 2 = .ok (.iconst 0, 1) := by decide +kernel
theorem d_Tb_isZero_3 : decode prog_5_method_8_code 3 = .ok (.invokevirtual 29, 3) := by decide +kernel
theorem d_Tb_isZero_6 : decode prog_5_method_8_code 6 = .ok (.dconst 0, 1) := by decide +kernel
theorem d_Tb_isZero_7 : decode prog_5_method_8_code 7 = .ok (.dcmp .l, 1) := by decide +kernel
theorem d_Tb_isZero_8 : decode prog_5_method_8_code 8 = .ok (.ifCond .ne 7, 3) := by decide +kernel
theorem d_Tb_isZero_11 : decode prog_5_method_8_code 11 = .ok (.iconst 1, 1) := by decide +kernel
theorem d_Tb_isZero_12 : decode prog_5_method_8_code 12 = .ok (.goto 4, 3) := by decide +kernel
theorem d_Tb_isZero_15 : decode prog_5_method_8_code 15 = .ok (.iconst 0, 1) := by decide +kernel
theorem d_Tb_isZero_16 : decode prog_5_method_8_code 16 = .ok (.ireturn, 1) := by decide +kernel
theorem d_Tb_isTooLarge_0 : decode prog_5_method_9_code 0 = .ok (.iconst 0, 1) := by decide +kernel
theorem d_Tb_isTooLarge_1 : decode prog_5_method_9_code 1 = .ok (.istore_n 1, 1) := by decide +kernel
theorem d_Tb_isTooLarge_2 : decode prog_5_method_9_code 2 = .ok (.iload_n 1, 1) := by decide +kernel
theorem d_Tb_isTooLarge_3 : decode prog_5_method_9_code 3 = .ok (.aload_n 0, 1) := by decide +kernel
theorem d_Tb_isTooLarge_4 : decode prog_5_method_9_code 4 = .ok (.getfield 19, 3) := by decide +kernel
theorem d_Tb_isTooLarge_7 : decode prog_5_method_9_code 7 = .ok (.if_icmp .ge 60, 3) := by decide +kernel
theorem d_Tb_isTooLarge_10 : decode prog_5_method_9_code 10 = .ok (.aload_n 0, 1) := by decide +kernel
theorem d_Tb_isTooLarge_11 : decode prog_5_method_9_code 11 = .ok (.getfield 15, 3) := by decide +kernel
theorem d_Tb_isTooLarge_14 : decode prog_5_method_9_code 14 = .ok (.ifCond .ne 53, 3) := by decide +kernel
theorem d_Tb_isTooLarge_17 : decode prog_5_method_9_code 17 = .ok (.iconst 0, 1) := by decide +kernel
theorem d_Tb_isTooLarge_18 : decode prog_5_method_9_code 18 = .ok (.istore_n 2, 1) := by decide +kernel
theorem d_Tb_isTooLarge_19 : decode prog_5_method_9_code 19 = .ok (.iload_n 2, 1) := by decide +kernel
theorem d_Tb_isTooLarge_20 : decode prog_5_method_9_code 20 = .ok (.aload_n 0, 1) := by decide +kernel
theorem d_Tb_isTooLarge_21 : decode prog_5_method_9_code 21 = .ok (.getfield 22, 3) := by decide +kernel
theorem d_Tb_isTooLarge_24 : decode prog_5_method_9_code 24 = .ok (.if_icmp .ge 37, 3) := by decide +kernel
theorem d_Tb_isTooLarge_27 : decode prog_5_method_9_code 27 = .ok (.aload_n 0, 1) := by decide +kernel
theorem d_Tb_isTooLarge_28 : decode prog_5_method_9_code 28 = .ok (.iload_n 1, 1) := by decide +kernel
theorem d_Tb_isTooLarge_29 : decode prog_5_method_9_code 29 = .ok (.iload_n 2, 1) := by decide +kernel
theorem d_Tb_isTooLarge_30 : decode prog_5_method_9_code 30 = .ok (.invokevirtual 29, 3) := by decide +kernel
theorem d_Tb_isTooLarge_33 : decode prog_5_method_9_code 33 = .ok (.ldc2_w 33, 3) := by decide +kernel
theorem d_Tb_isTooLarge_36 : decode prog_5_method_9_code 36 = .ok (.dcmp .l, 1) := by decide +kernel
theorem d_Tb_isTooLarge_37 : decode prog_5_method_9_code 37 = .ok (.ifCond .gt 16, 3) := by decide +kernel
theorem d_Tb_isTooLarge_40 : decode prog_5_method_9_code 40 = .ok (.aload_n 0, 1) := by decide +kernel
theorem d_Tb_isTooLarge_41 : decode prog_5_method_9_code 41 = .ok (.iload_n 1, 1) := by decide +kernel
theorem d_Tb_isTooLarge_42 : decode prog_5_method_9_code 42 = .ok (.iload_n 2, 1) := by decide +kernel
theorem d_Tb_isTooLarge_43 : decode prog_5_method_9_code 43 = .ok (.invokevirtual 29, 3) := by decide +kernel
theorem d_Tb_isTooLarge_46 : decode prog_5_method_9_code 46 = .ok (.ldc2_w 35, 3) := by decide +kernel
theorem d_Tb_isTooLarge_49 : decode prog_5_method_9_code 49 = .ok (.dcmp .g, 1) := by decide +kernel
theorem d_Tb_isTooLarge_50 : decode prog_5_method_9_code 50 = .ok (.ifCond .ge 5, 3) := by decide +kernel
theorem d_Tb_isTooLarge_53 : decode prog_5_method_9_code 53 = .ok (.iconst 1, 1) := by decide +kernel
theorem d_Tb_isTooLarge_54 : decode prog_5_method_9_code 54 = .ok (.ireturn, 1) := by decide +kernel
theorem d_Tb_isTooLarge_55 : decode prog_5_method_9_code 55 = .ok (.iinc 2 1, 3) := by decide +kernel
theorem d_Tb_isTooLarge_58 : decode prog_5_method_9_code 58 = .ok (.goto (-39), 3) := by decide +kernel
theorem d_Tb_isTooLarge_61 : decode prog_5_method_9_code 61 = .ok (.iinc 1 1, 3) := by decide +kernel
theorem d_Tb_isTooLarge_64 : decode prog_5_method_9_code 64 = .ok (.goto (-62), 3) := by decide +kernel
theorem d_Tb_isTooLarge_67 : decode prog_5_method_9_code 67 = .ok (.iconst 0, 1) := by decide +kernel
theorem d_Tb_isTooLarge_68 : decode prog_5_method_9_code 68 = .ok (.ireturn, 1) := by decide +kernel
theorem d_Sl_init_0 : decode prog_4_method_1_code 0 = .ok (.aload_n 0, 1) := by decide +kernel
theorem d_Sl_init_1 : decode prog_4_method_1_code 1 = .ok (.invokespecial 3, 3) := by decide +kernel
theorem d_Sl_init_4 : decode prog_4_method_1_code 4 = .ok (.aload_n 0, 1) := by decide +kernel
theorem d_Sl_init_5 : decode prog_4_method_1_code 5 = .ok (.new 9, 3) := by decide +kernel
theorem d_Sl_init_8 : decode prog_4_method_1_code 8 = .ok (.dup, 1) := by decide +kernel
theorem d_Sl_init_9 : decode prog_4_method_1_code 9 = .ok (.invokespecial 11, 3) := by decide +kernel
theorem d_Sl_init_12 : decode prog_4_method_1_code 12 = .ok (.putfield 12, 3) := by decide +kernel
theorem d_Sl_init_15 : decode prog_4_method_1_code 15 = .ok (.aload_n 0, 1) := by decide +kernel
theorem d_Sl_init_16 : decode prog_4_method_1_code 16 = .ok (.iconst 0, 1) := by decide +kernel
theorem d_Sl_init_17 : decode prog_4_method_1_code 17 = .ok (.putfield 18, 3) := by decide +kernel
theorem d_Sl_init_20 : decode prog_4_method_1_code 20 = .ok (.aload_n 0, 1) := by decide +kernel
theorem d_Sl_init_21 : decode prog_4_method_1_code 21 = .ok (.iconst 0, 1) := by decide +kernel
theorem d_Sl_init_22 : decode prog_4_method_1_code 22 = .ok (.putfield 22, 3) := by decide +kernel
theorem d_Sl_init_25 : decode prog_4_method_1_code 25 = .ok (.return_, 1) := by decide +kernel
theorem d_Nd_init_0 : decode prog_2_method_1_code 0 = .ok (.aload_n 0, 1) := by decide +kernel
theorem d_Nd_init_1 : decode prog_2_method_1_code 1 = .ok (.invokespecial 3, 3) := by decide +kernel
theorem d_Nd_init_4 : decode prog_2_method_1_code 4 = .ok (.aload_n 0, 1) := by decide +kernel
theorem d_Nd_init_5 : decode prog_2_method_1_code 5 = .ok (.iconst 3, 1) := by decide +kernel
theorem d_Nd_init_6 : decode prog_2_method_1_code 6 = .ok (.newarray .int, 2) := by decide +kernel
theorem d_Nd_init_8 : decode prog_2_method_1_code 8 = .ok (.putfield 9, 3) := by decide +kernel
theorem d_Nd_init_11 : decode prog_2_method_1_code 11 = .ok (.aload_n 0, 1) := by decide +kernel
theorem d_Nd_init_12 : decode prog_2_method_1_code 12 = .ok (.iconst 0, 1) := by decide +kernel
theorem d_Nd_init_13 : decode prog_2_method_1_code 13 = .ok (.putfield 15, 3) := by decide +kernel
theorem d_Nd_init_16 : decode prog_2_method_1_code 16 = .ok (.aload_n 0, 1) := by decide +kernel
theorem d_Nd_init_17 : decode prog_2_method_1_code 17 = .ok (.iconst 0, 1) := by decide +kernel
theorem d_Nd_init_18 : decode prog_2_method_1_code 18 = .ok (.putfield 19, 3) := by decide +kernel
theorem d_Nd_init_21 : decode prog_2_method_1_code 21 = .ok (.aload_n 0, 1) := by decide +kernel
theorem d_Nd_init_22 : decode prog_2_method_1_code 22 = .ok (.iconst 0, 1) := by decide +kernel
theorem d_Nd_init_23 : decode prog_2_method_1_code 23 = .ok (.putfield 22, 3) := by decide +kernel
theorem d_Nd_init_26 : decode prog_2_method_1_code 26 = .ok (.aload_n 0, 1) := by decide +kernel
theorem d_Nd_init_27 : decode prog_2_method_1_code 27 = .ok (.iconst 0, 1) := by decide +kernel
theorem d_Nd_init_28 : decode prog_2_method_1_code 28 = .ok (.putfield 25, 3) := by decide +kernel
theorem d_Nd_init_31 : decode prog_2_method_1_code 31 = .ok (.aload_n 0, 1) := by decide +kernel
theorem d_Nd_init_32 : decode prog_2_method_1_code 32 = .ok (.iconst 0, 1) := by decide +kernel
theorem d_Nd_init_33 : decode prog_2_method_1_code 33 = .ok (.putfield 28, 3) := by decide +kernel
theorem d_Nd_init_36 : decode prog_2_method_1_code 36 = .ok (.aload_n 0, 1) := by decide +kernel
theorem d_Nd_init_37 : decode prog_2_method_1_code 37 = .ok (.iconst 0, 1) := by decide +kernel
theorem d_Nd_init_38 : decode prog_2_method_1_code 38 = .ok (.putfield 31, 3) := by decide +kernel
theorem d_Nd_init_41 : decode prog_2_method_1_code 41 = .ok (.aload_n 0, 1) := by decide +kernel
theorem d_Nd_init_42 : decode prog_2_method_1_code 42 = .ok (.iconst 0, 1) := by decide +kernel
theorem d_Nd_init_43 : decode prog_2_method_1_code 43 = .ok (.putfield 35, 3) := by decide +kernel
theorem d_Nd_init_46 : decode prog_2_method_1_code 46 = .ok (.aload_n 0, 1) := by decide +kernel
theorem d_Nd_init_47 : decode prog_2_method_1_code 47 = .ok (.iconst 0, 1) := by decide +kernel
theorem d_Nd_init_48 : decode prog_2_method_1_code 48 = .ok (.putfield 38, 3) := by decide +kernel
theorem d_Nd_init_51 : decode prog_2_method_1_code 51 = .ok (.return_, 1) := by decide +kernel
theorem d_Nd_become_0 : decode prog_2_method_2_code 0 = .ok (.aload_n 0, 1) := by decide +kernel
theorem d_Nd_become_1 : decode prog_2_method_2_code 1 = .ok (.iload_n 1, 1) := by decide +kernel
theorem d_Nd_become_2 : decode prog_2_method_2_code 2 = .ok (.putfield 19, 3) := by decide +kernel
theorem d_Nd_become_5 : decode prog_2_method_2_code 5 = .ok (.aload_n 0, 1) := by decide +kernel
theorem d_Nd_become_6 : decode prog_2_method_2_code 6 = .ok (.iload_n 2, 1) := by decide +kernel
theorem d_Nd_become_7 : decode prog_2_method_2_code 7 = .ok (.putfield 22, 3) := by decide +kernel
theorem d_Nd_become_10 : decode prog_2_method_2_code 10 = .ok (.aload_n 0, 1) := by decide +kernel
theorem d_Nd_become_11 : decode prog_2_method_2_code 11 = .ok (.iload_n 3, 1) := by decide +kernel
theorem d_Nd_become_12 : decode prog_2_method_2_code 12 = .ok (.putfield 25, 3) := by decide +kernel
theorem d_Nd_become_15 : decode prog_2_method_2_code 15 = .ok (.aload_n 0, 1) := by decide +kernel
theorem d_Nd_become_16 : decode prog_2_method_2_code 16 = .ok (.iload 4, 2) := by decide +kernel
theorem d_Nd_become_18 : decode prog_2_method_2_code 18 = .ok (.putfield 28, 3) := by decide +kernel
theorem d_Nd_become_21 : decode prog_2_method_2_code 21 = .ok (.aload_n 0, 1) := by decide +kernel
theorem d_Nd_become_22 : decode prog_2_method_2_code 22 = .ok (.getstatic 41, 3) := by decide +kernel
theorem d_Nd_become_25 : decode prog_2_method_2_code 25 = .ok (.iload_n 1, 1) := by decide +kernel
theorem d_Nd_become_26 : decode prog_2_method_2_code 26 = .ok (.iaload, 1) := by decide +kernel
theorem d_Nd_become_27 : decode prog_2_method_2_code 27 = .ok (.putfield 15, 3) := by decide +kernel
theorem d_Nd_become_30 : decode prog_2_method_2_code 30 = .ok (.return_, 1) := by decide +kernel
theorem d_Nd_takeArguments_0 : decode prog_2_method_3_code 0 = .ok (.aload_n 0, 1) := by decide +kernel
theorem d_Nd_takeArguments_1 : decode prog_2_method_3_code 1 = .ok (.getfield 9, 3) := by decide +kernel
theorem d_Nd_takeArguments_4 : decode prog_2_method_3_code 4 = .ok (.iconst 0, 1) := by decide +kernel
theorem d_Nd_takeArguments_5 : decode prog_2_method_3_code 5 = .ok (.iload_n 1, 1) := by decide +kernel
theorem d_Nd_takeArguments_6 : decode prog_2_method_3_code 6 = .ok (.iastore, 1) := by decide +kernel
theorem d_Nd_takeArguments_7 : decode prog_2_method_3_code 7 = .ok (.aload_n 0, 1) := by decide +kernel
theorem d_Nd_takeArguments_8 : decode prog_2_method_3_code 8 = .ok (.getfield 9, 3) := by decide +kernel
theorem d_Nd_takeArguments_11 : decode prog_2_method_3_code 11 = .ok (.iconst 1, 1) := by decide +kernel
theorem d_Nd_takeArguments_12 : decode prog_2_method_3_code 12 = .ok (.iload_n 2, 1) := by decide +kernel
theorem d_Nd_takeArguments_13 : decode prog_2_method_3_code 13 = .ok (.iastore, 1) := by decide +kernel
theorem d_Nd_takeArguments_14 : decode prog_2_method_3_code 14 = .ok (.aload_n 0, 1) := by decide +kernel
theorem d_Nd_takeArguments_15 : decode prog_2_method_3_code 15 = .ok (.getfield 9, 3) := by decide +kernel
theorem d_Nd_takeArguments_18 : decode prog_2_method_3_code 18 = .ok (.iconst 2, 1) := by decide +kernel
theorem d_Nd_takeArguments_19 : decode prog_2_method_3_code 19 = .ok (.iload_n 3, 1) := by decide +kernel
theorem d_Nd_takeArguments_20 : decode prog_2_method_3_code 20 = .ok (.iastore, 1) := by decide +kernel
theorem d_Nd_takeArguments_21 : decode prog_2_method_3_code 21 = .ok (.return_, 1) := by decide +kernel
theorem d_Nd_hasOutcome_0 : decode prog_2_method_4_code 0 = .ok (.aload_n 0, 1) := by decide +kernel
theorem d_Nd_hasOutcome_1 : decode prog_2_method_4_code 1 = .ok (.getfield 38, 3) := by decide +kernel
theorem d_Nd_hasOutcome_4 : decode prog_2_method_4_code 4 = .ok (.ifCond .ne 10, 3) := by decide +kernel
theorem d_Nd_hasOutcome_7 : decode prog_2_method_4_code 7 = .ok (.aload_n 0, 1) := by decide +kernel
theorem d_Nd_hasOutcome_8 : decode prog_2_method_4_code 8 = .ok (.getfield 35, 3) := by decide +kernel
theorem d_Nd_hasOutcome_11 : decode prog_2_method_4_code 11 = .ok (.ifCond .eq 7, 3) := by decide +kernel
theorem d_Nd_hasOutcome_14 : decode prog_2_method_4_code 14 = .ok (.iconst 1, 1) := by decide +kernel
theorem d_Nd_hasOutcome_15 : decode prog_2_method_4_code 15 = .ok (.goto 4, 3) := by decide +kernel
theorem d_Nd_hasOutcome_18 : decode prog_2_method_4_code 18 = .ok (.iconst 0, 1) := by decide +kernel
theorem d_Nd_hasOutcome_19 : decode prog_2_method_4_code 19 = .ok (.ireturn, 1) := by decide +kernel
theorem d_Gr_init_0 : decode prog_1_method_1_code 0 = .ok (.aload_n 0, 1) := by decide +kernel
theorem d_Gr_init_1 : decode prog_1_method_1_code 1 = .ok (.invokespecial 1, 3) := by decide +kernel
theorem d_Gr_init_4 : decode prog_1_method_1_code 4 = .ok (.aload_n 0, 1) := by decide +kernel
theorem d_Gr_init_5 : decode prog_1_method_1_code 5 = .ok (.bipush 20, 2) := by decide +kernel
theorem d_Gr_init_7 : decode prog_1_method_1_code 7 = .ok (.anewarray 9, 3) := by decide +kernel
theorem d_Gr_init_10 : decode prog_1_method_1_code 10 = .ok (.putfield 11, 3) := by decide +kernel
theorem d_Gr_init_13 : decode prog_1_method_1_code 13 = .ok (.aload_n 0, 1) := by decide +kernel
theorem d_Gr_init_14 : decode prog_1_method_1_code 14 = .ok (.bipush 14, 2) := by decide +kernel
theorem d_Gr_init_16 : decode prog_1_method_1_code 16 = .ok (.anewarray 15, 3) := by decide +kernel
theorem d_Gr_init_19 : decode prog_1_method_1_code 19 = .ok (.putfield 17, 3) := by decide +kernel
theorem d_Gr_init_22 : decode prog_1_method_1_code 22 = .ok (.aload_n 0, 1) := by decide +kernel
theorem d_Gr_init_23 : decode prog_1_method_1_code 23 = .ok (.bipush 14, 2) := by decide +kernel
theorem d_Gr_init_25 : decode prog_1_method_1_code 25 = .ok (.newarray .int, 2) := by decide +kernel
theorem d_Gr_init_27 : decode prog_1_method_1_code 27 = .ok (.putfield 21, 3) := by decide +kernel
theorem d_Gr_init_30 : decode prog_1_method_1_code 30 = .ok (.aload_n 0, 1) := by decide +kernel
theorem d_Gr_init_31 : decode prog_1_method_1_code 31 = .ok (.bipush 14, 2) := by decide +kernel
theorem d_Gr_init_33 : decode prog_1_method_1_code 33 = .ok (.newarray .int, 2) := by decide +kernel
theorem d_Gr_init_35 : decode prog_1_method_1_code 35 = .ok (.putfield 25, 3) := by decide +kernel
theorem d_Gr_init_38 : decode prog_1_method_1_code 38 = .ok (.aload_n 0, 1) := by decide +kernel
theorem d_Gr_init_39 : decode prog_1_method_1_code 39 = .ok (.new 28, 3) := by decide +kernel
theorem d_Gr_init_42 : decode prog_1_method_1_code 42 = .ok (.dup, 1) := by decide +kernel
theorem d_Gr_init_43 : decode prog_1_method_1_code 43 = .ok (.invokespecial 30, 3) := by decide +kernel
theorem d_Gr_init_46 : decode prog_1_method_1_code 46 = .ok (.putfield 31, 3) := by decide +kernel
theorem d_Gr_init_49 : decode prog_1_method_1_code 49 = .ok (.aload_n 0, 1) := by decide +kernel
theorem d_Gr_init_50 : decode prog_1_method_1_code 50 = .ok (.iconst 0, 1) := by decide +kernel
theorem d_Gr_init_51 : decode prog_1_method_1_code 51 = .ok (.putfield 35, 3) := by decide +kernel
theorem d_Gr_init_54 : decode prog_1_method_1_code 54 = .ok (.aload_n 0, 1) := by decide +kernel
theorem d_Gr_init_55 : decode prog_1_method_1_code 55 = .ok (.iconst 1, 1) := by decide +kernel
theorem d_Gr_init_56 : decode prog_1_method_1_code 56 = .ok (.putfield 39, 3) := by decide +kernel
theorem d_Gr_init_59 : decode prog_1_method_1_code 59 = .ok (.aload_n 0, 1) := by decide +kernel
theorem d_Gr_init_60 : decode prog_1_method_1_code 60 = .ok (.iconst 0, 1) := by decide +kernel
theorem d_Gr_init_61 : decode prog_1_method_1_code 61 = .ok (.putfield 43, 3) := by decide +kernel
theorem d_Gr_init_64 : decode prog_1_method_1_code 64 = .ok (.aload_n 0, 1) := by decide +kernel
theorem d_Gr_init_65 : decode prog_1_method_1_code 65 = .ok (.iconst 0, 1) := by decide +kernel
theorem d_Gr_init_66 : decode prog_1_method_1_code 66 = .ok (.putfield 46, 3) := by decide +kernel
theorem d_Gr_init_69 : decode prog_1_method_1_code 69 = .ok (.iconst 0, 1) := by decide +kernel
theorem d_Gr_init_70 : decode prog_1_method_1_code 70 = .ok (.istore_n 1, 1) := by decide +kernel
theorem d_Gr_init_71 : decode prog_1_method_1_code 71 = .ok (.iload_n 1, 1) := by decide +kernel
theorem d_Gr_init_72 : decode prog_1_method_1_code 72 = .ok (.bipush 20, 2) := by decide +kernel
theorem d_Gr_init_74 : decode prog_1_method_1_code 74 = .ok (.if_icmp .ge 22, 3) := by decide +kernel
theorem d_Gr_init_77 : decode prog_1_method_1_code 77 = .ok (.aload_n 0, 1) := by decide +kernel
theorem d_Gr_init_78 : decode prog_1_method_1_code 78 = .ok (.getfield 11, 3) := by decide +kernel
theorem d_Gr_init_81 : decode prog_1_method_1_code 81 = .ok (.iload_n 1, 1) := by decide +kernel
theorem d_Gr_init_82 : decode prog_1_method_1_code 82 = .ok (.new 9, 3) := by decide +kernel
theorem d_Gr_init_85 : decode prog_1_method_1_code 85 = .ok (.dup, 1) := by decide +kernel
theorem d_Gr_init_86 : decode prog_1_method_1_code 86 = .ok (.invokespecial 49, 3) := by decide +kernel
theorem d_Gr_init_89 : decode prog_1_method_1_code 89 = .ok (.aastore, 1) := by decide +kernel
theorem d_Gr_init_90 : decode prog_1_method_1_code 90 = .ok (.iinc 1 1, 3) := by decide +kernel
theorem d_Gr_init_93 : decode prog_1_method_1_code 93 = .ok (.goto (-22), 3) := by decide +kernel
theorem d_Gr_init_96 : decode prog_1_method_1_code 96 = .ok (.iconst 0, 1) := by decide +kernel
theorem d_Gr_init_97 : decode prog_1_method_1_code 97 = .ok (.istore_n 1, 1) := by decide +kernel
theorem d_Gr_init_98 : decode prog_1_method_1_code 98 = .ok (.iload_n 1, 1) := by decide +kernel
theorem d_Gr_init_99 : decode prog_1_method_1_code 99 = .ok (.bipush 14, 2) := by decide +kernel
theorem d_Gr_init_101 : decode prog_1_method_1_code 101 = .ok (.if_icmp .ge 22, 3) := by decide +kernel
theorem d_Gr_init_104 : decode prog_1_method_1_code 104 = .ok (.aload_n 0, 1) := by decide +kernel
theorem d_Gr_init_105 : decode prog_1_method_1_code 105 = .ok (.getfield 17, 3) := by decide +kernel
theorem d_Gr_init_108 : decode prog_1_method_1_code 108 = .ok (.iload_n 1, 1) := by decide +kernel
theorem d_Gr_init_109 : decode prog_1_method_1_code 109 = .ok (.new 15, 3) := by decide +kernel
theorem d_Gr_init_112 : decode prog_1_method_1_code 112 = .ok (.dup, 1) := by decide +kernel
theorem d_Gr_init_113 : decode prog_1_method_1_code 113 = .ok (.invokespecial 50, 3) := by decide +kernel
theorem d_Gr_init_116 : decode prog_1_method_1_code 116 = .ok (.aastore, 1) := by decide +kernel
theorem d_Gr_init_117 : decode prog_1_method_1_code 117 = .ok (.iinc 1 1, 3) := by decide +kernel
theorem d_Gr_init_120 : decode prog_1_method_1_code 120 = .ok (.goto (-22), 3) := by decide +kernel
theorem d_Gr_init_123 : decode prog_1_method_1_code 123 = .ok (.return_, 1) := by decide +kernel
theorem d_Gr_count_0 : decode prog_1_method_10_code 0 = .ok (.iload_n 1, 1) := by decide +kernel
theorem d_Gr_count_1 : decode prog_1_method_10_code 1 = .ok (.tableswitch 77 0 5 #[39, 44, 57, 62, 67, 72], 39) := by decide +kernel
theorem d_Gr_count_40 : decode prog_1_method_10_code 40 = .ok (.aload_n 0, 1) := by decide +kernel
theorem d_Gr_count_41 : decode prog_1_method_10_code 41 = .ok (.getfield 35, 3) := by decide +kernel
theorem d_Gr_count_44 : decode prog_1_method_10_code 44 = .ok (.ireturn, 1) := by decide +kernel
theorem d_Gr_count_45 : decode prog_1_method_10_code 45 = .ok (.aload_n 0, 1) := by decide +kernel
theorem d_Gr_count_46 : decode prog_1_method_10_code 46 = .ok (.getfield 39, 3) := by decide +kernel
theorem d_Gr_count_49 : decode prog_1_method_10_code 49 = .ok (.ifCond .eq 7, 3) := by decide +kernel
theorem d_Gr_count_52 : decode prog_1_method_10_code 52 = .ok (.iconst 1, 1) := by decide +kernel
theorem d_Gr_count_53 : decode prog_1_method_10_code 53 = .ok (.goto 4, 3) := by decide +kernel
theorem d_Gr_count_56 : decode prog_1_method_10_code 56 = .ok (.iconst 0, 1) := by decide +kernel
theorem d_Gr_count_57 : decode prog_1_method_10_code 57 = .ok (.ireturn, 1) := by decide +kernel
theorem d_Gr_count_58 : decode prog_1_method_10_code 58 = .ok (.aload_n 0, 1) := by decide +kernel
theorem d_Gr_count_59 : decode prog_1_method_10_code 59 = .ok (.invokevirtual 147, 3) := by decide +kernel
theorem d_Gr_count_62 : decode prog_1_method_10_code 62 = .ok (.ireturn, 1) := by decide +kernel
theorem d_Gr_count_63 : decode prog_1_method_10_code 63 = .ok (.aload_n 0, 1) := by decide +kernel
theorem d_Gr_count_64 : decode prog_1_method_10_code 64 = .ok (.invokevirtual 174, 3) := by decide +kernel
theorem d_Gr_count_67 : decode prog_1_method_10_code 67 = .ok (.ireturn, 1) := by decide +kernel
theorem d_Gr_count_68 : decode prog_1_method_10_code 68 = .ok (.aload_n 0, 1) := by decide +kernel
theorem d_Gr_count_69 : decode prog_1_method_10_code 69 = .ok (.getfield 43, 3) := by decide +kernel
theorem d_Gr_count_72 : decode prog_1_method_10_code 72 = .ok (.ireturn, 1) := by decide +kernel
theorem d_Gr_count_73 : decode prog_1_method_10_code 73 = .ok (.aload_n 0, 1) := by decide +kernel
theorem d_Gr_count_74 : decode prog_1_method_10_code 74 = .ok (.getfield 46, 3) := by decide +kernel
theorem d_Gr_count_77 : decode prog_1_method_10_code 77 = .ok (.ireturn, 1) := by decide +kernel
theorem d_Gr_count_78 : decode prog_1_method_10_code 78 = .ok (.aload_n 0, 1) := by decide +kernel
theorem d_Gr_count_79 : decode prog_1_method_10_code 79 = .ok (.iload_n 1, 1) := by decide +kernel
theorem d_Gr_count_80 : decode prog_1_method_10_code 80 = .ok (.invokevirtual 177, 3) := by decide +kernel
theorem d_Gr_count_83 : decode prog_1_method_10_code 83 = .ok (.ireturn, 1) := by decide +kernel
theorem d_Gr_foldedCount_0 : decode prog_1_method_25_code 0 = .ok (.iconst 0, 1) := by decide +kernel
theorem d_Gr_foldedCount_1 : decode prog_1_method_25_code 1 = .ok (.istore_n 1, 1) := by decide +kernel
theorem d_Gr_foldedCount_2 : decode prog_1_method_25_code 2 = .ok (.iconst 0, 1) := by decide +kernel
theorem d_Gr_foldedCount_3 : decode prog_1_method_25_code 3 = .ok (.istore_n 2, 1) := by decide +kernel
theorem d_Gr_foldedCount_4 : decode prog_1_method_25_code 4 = .ok (.iload_n 2, 1) := by decide +kernel
theorem d_Gr_foldedCount_5 : decode prog_1_method_25_code 5 = .ok (.aload_n 0, 1) := by decide +kernel
theorem d_Gr_foldedCount_6 : decode prog_1_method_25_code 6 = .ok (.getfield 35, 3) := by decide +kernel
theorem d_Gr_foldedCount_9 : decode prog_1_method_25_code 9 = .ok (.if_icmp .ge 29, 3) := by decide +kernel
theorem d_Gr_foldedCount_12 : decode prog_1_method_25_code 12 = .ok (.iload_n 1, 1) := by decide +kernel
theorem d_Gr_foldedCount_13 : decode prog_1_method_25_code 13 = .ok (.aload_n 0, 1) := by decide +kernel
theorem d_Gr_foldedCount_14 : decode prog_1_method_25_code 14 = .ok (.getfield 17, 3) := by decide +kernel
theorem d_Gr_foldedCount_17 : decode prog_1_method_25_code 17 = .ok (.iload_n 2, 1) := by decide +kernel
theorem d_Gr_foldedCount_18 : decode prog_1_method_25_code 18 = .ok (.aaload, 1) := by decide +kernel
theorem d_Gr_foldedCount_19 : decode prog_1_method_25_code 19 = .ok (.getfield 187, 3) := by decide +kernel
theorem d_Gr_foldedCount_22 : decode prog_1_method_25_code 22 = .ok (.ifCond .eq 7, 3) := by decide +kernel
theorem d_Gr_foldedCount_25 : decode prog_1_method_25_code 25 = .ok (.iconst 1, 1) := by decide +kernel
theorem d_Gr_foldedCount_26 : decode prog_1_method_25_code 26 = .ok (.goto 4, 3) := by decide +kernel
theorem d_Gr_foldedCount_29 : decode prog_1_method_25_code 29 = .ok (.iconst 0, 1) := by decide +kernel
theorem d_Gr_foldedCount_30 : decode prog_1_method_25_code 30 = .ok (.iadd, 1) := by decide +kernel
theorem d_Gr_foldedCount_31 : decode prog_1_method_25_code 31 = .ok (.istore_n 1, 1) := by decide +kernel
theorem d_Gr_foldedCount_32 : decode prog_1_method_25_code 32 = .ok (.iinc 2 1, 3) := by decide +kernel
theorem d_Gr_foldedCount_35 : decode prog_1_method_25_code 35 = .ok (.goto (-31), 3) := by decide +kernel
theorem d_Gr_foldedCount_38 : decode prog_1_method_25_code 38 = .ok (.iload_n 1, 1) := by decide +kernel
theorem d_Gr_foldedCount_39 : decode prog_1_method_25_code 39 = .ok (.ireturn, 1) := by decide +kernel
theorem d_Gr_knownCount_0 : decode prog_1_method_26_code 0 = .ok (.iconst 0, 1) := by decide +kernel
theorem d_Gr_knownCount_1 : decode prog_1_method_26_code 1 = .ok (.istore_n 1, 1) := by decide +kernel
theorem d_Gr_knownCount_2 : decode prog_1_method_26_code 2 = .ok (.iconst 0, 1) := by decide +kernel
theorem d_Gr_knownCount_3 : decode prog_1_method_26_code 3 = .ok (.istore_n 2, 1) := by decide +kernel
theorem d_Gr_knownCount_4 : decode prog_1_method_26_code 4 = .ok (.iload_n 2, 1) := by decide +kernel
theorem d_Gr_knownCount_5 : decode prog_1_method_26_code 5 = .ok (.aload_n 0, 1) := by decide +kernel
theorem d_Gr_knownCount_6 : decode prog_1_method_26_code 6 = .ok (.getfield 35, 3) := by decide +kernel
theorem d_Gr_knownCount_9 : decode prog_1_method_26_code 9 = .ok (.if_icmp .ge 29, 3) := by decide +kernel
theorem d_Gr_knownCount_12 : decode prog_1_method_26_code 12 = .ok (.iload_n 1, 1) := by decide +kernel
theorem d_Gr_knownCount_13 : decode prog_1_method_26_code 13 = .ok (.aload_n 0, 1) := by decide +kernel
theorem d_Gr_knownCount_14 : decode prog_1_method_26_code 14 = .ok (.getfield 17, 3) := by decide +kernel
theorem d_Gr_knownCount_17 : decode prog_1_method_26_code 17 = .ok (.iload_n 2, 1) := by decide +kernel
theorem d_Gr_knownCount_18 : decode prog_1_method_26_code 18 = .ok (.aaload, 1) := by decide +kernel
theorem d_Gr_knownCount_19 : decode prog_1_method_26_code 19 = .ok (.getfield 193, 3) := by decide +kernel
theorem d_Gr_knownCount_22 : decode prog_1_method_26_code 22 = .ok (.ifCond .eq 7, 3) := by decide +kernel
theorem d_Gr_knownCount_25 : decode prog_1_method_26_code 25 = .ok (.iconst 1, 1) := by decide +kernel
theorem d_Gr_knownCount_26 : decode prog_1_method_26_code 26 = .ok (.goto 4, 3) := by decide +kernel
theorem d_Gr_knownCount_29 : decode prog_1_method_26_code 29 = .ok (.iconst 0, 1) := by decide +kernel
theorem d_Gr_knownCount_30 : decode prog_1_method_26_code 30 = .ok (.iadd, 1) := by decide +kernel
theorem d_Gr_knownCount_31 : decode prog_1_method_26_code 31 = .ok (.istore_n 1, 1) := by decide +kernel
theorem d_Gr_knownCount_32 : decode prog_1_method_26_code 32 = .ok (.iinc 2 1, 3) := by decide +kernel
theorem d_Gr_knownCount_35 : decode prog_1_method_26_code 35 = .ok (.goto (-31), 3) := by decide +kernel
theorem d_Gr_knownCount_38 : decode prog_1_method_26_code 38 = .ok (.iload_n 1, 1) := by decide +kernel
theorem d_Gr_knownCount_39 : decode prog_1_method_26_code 39 = .ok (.ireturn, 1) := by decide +kernel
theorem d_Gr_inOrder_0 : decode prog_1_method_11_code 0 = .ok (.aload_n 0, 1) := by decide +kernel
theorem d_Gr_inOrder_1 : decode prog_1_method_11_code 1 = .ok (.getfield 39, 3) := by decide +kernel
theorem d_Gr_inOrder_4 : decode prog_1_method_11_code 4 = .ok (.ifCond .eq 20, 3) := by decide +kernel
theorem d_Gr_inOrder_7 : decode prog_1_method_11_code 7 = .ok (.iload_n 1, 1) := by decide +kernel
theorem d_Gr_inOrder_8 : decode prog_1_method_11_code 8 = .ok (.bipush 10, 2) := by decide +kernel
theorem d_Gr_inOrder_10 : decode prog_1_method_11_code 10 = .ok (.if_icmp .lt 14, 3) := by decide +kernel
theorem d_Gr_inOrder_13 : decode prog_1_method_11_code 13 = .ok (.iload_n 1, 1) := by decide +kernel
theorem d_Gr_inOrder_14 : decode prog_1_method_11_code 14 = .ok (.bipush 10, 2) := by decide +kernel
theorem d_Gr_inOrder_16 : decode prog_1_method_11_code 16 = .ok (.aload_n 0, 1) := by decide +kernel
theorem d_Gr_inOrder_17 : decode prog_1_method_11_code 17 = .ok (.getfield 35, 3) := by decide +kernel
theorem d_Gr_inOrder_20 : decode prog_1_method_11_code 20 = .ok (.iadd, 1) := by decide +kernel
theorem d_Gr_inOrder_21 : decode prog_1_method_11_code 21 = .ok (.if_icmp .lt 5, 3) := by decide +kernel
theorem d_Gr_inOrder_24 : decode prog_1_method_11_code 24 = .ok (.iconst (-1), 1) := by decide +kernel
theorem d_Gr_inOrder_25 : decode prog_1_method_11_code 25 = .ok (.ireturn, 1) := by decide +kernel
theorem d_Gr_inOrder_26 : decode prog_1_method_11_code 26 = .ok (.aload_n 0, 1) := by decide +kernel
theorem d_Gr_inOrder_27 : decode prog_1_method_11_code 27 = .ok (.getfield 21, 3) := by decide +kernel
theorem d_Gr_inOrder_30 : decode prog_1_method_11_code 30 = .ok (.iload_n 1, 1) := by decide +kernel
theorem d_Gr_inOrder_31 : decode prog_1_method_11_code 31 = .ok (.bipush 10, 2) := by decide +kernel
theorem d_Gr_inOrder_33 : decode prog_1_method_11_code 33 = .ok (.isub, 1) := by decide +kernel
theorem d_Gr_inOrder_34 : decode prog_1_method_11_code 34 = .ok (.iaload, 1) := by decide +kernel
theorem d_Gr_inOrder_35 : decode prog_1_method_11_code 35 = .ok (.ireturn, 1) := by decide +kernel
theorem d_Gr_table_0 : decode prog_1_method_2_code 0 = .ok (.aload_n 0, 1) := by decide +kernel
theorem d_Gr_table_1 : decode prog_1_method_2_code 1 = .ok (.iload_n 1, 1) := by decide +kernel
theorem d_Gr_table_2 : decode prog_1_method_2_code 2 = .ok (.invokevirtual 51, 3) := by decide +kernel
theorem d_Gr_table_5 : decode prog_1_method_2_code 5 = .ok (.ifCond .eq 25, 3) := by decide +kernel
theorem d_Gr_table_8 : decode prog_1_method_2_code 8 = .ok (.iload_n 2, 1) := by decide +kernel
theorem d_Gr_table_9 : decode prog_1_method_2_code 9 = .ok (.invokestatic 55, 3) := by decide +kernel
theorem d_Gr_table_12 : decode prog_1_method_2_code 12 = .ok (.ifCond .eq 18, 3) := by decide +kernel
theorem d_Gr_table_15 : decode prog_1_method_2_code 15 = .ok (.iload_n 3, 1) := by decide +kernel
theorem d_Gr_table_16 : decode prog_1_method_2_code 16 = .ok (.invokestatic 58, 3) := by decide +kernel
theorem d_Gr_table_19 : decode prog_1_method_2_code 19 = .ok (.ifCond .eq 11, 3) := by decide +kernel
theorem d_Gr_table_22 : decode prog_1_method_2_code 22 = .ok (.iload 4, 2) := by decide +kernel
theorem d_Gr_table_24 : decode prog_1_method_2_code 24 = .ok (.invokestatic 58, 3) := by decide +kernel
theorem d_Gr_table_27 : decode prog_1_method_2_code 27 = .ok (.ifCond .ne 11, 3) := by decide +kernel
theorem d_Gr_table_30 : decode prog_1_method_2_code 30 = .ok (.new 61, 3) := by decide +kernel
theorem d_Gr_table_33 : decode prog_1_method_2_code 33 = .ok (.dup, 1) := by decide +kernel
theorem d_Gr_table_34 : decode prog_1_method_2_code 34 = .ok (.invokespecial 63, 3) := by decide +kernel
theorem d_Gr_table_37 : decode prog_1_method_2_code 37 = .ok (.athrow, 1) := by decide +kernel
theorem d_Gr_table_38 : decode prog_1_method_2_code 38 = .ok (.aload_n 0, 1) := by decide +kernel
theorem d_Gr_table_39 : decode prog_1_method_2_code 39 = .ok (.getfield 11, 3) := by decide +kernel
theorem d_Gr_table_42 : decode prog_1_method_2_code 42 = .ok (.iload_n 1, 1) := by decide +kernel
theorem d_Gr_table_43 : decode prog_1_method_2_code 43 = .ok (.aaload, 1) := by decide +kernel
theorem d_Gr_table_44 : decode prog_1_method_2_code 44 = .ok (.iload 5, 2) := by decide +kernel
theorem d_Gr_table_46 : decode prog_1_method_2_code 46 = .ok (.ifCond .eq 7, 3) := by decide +kernel
theorem d_Gr_table_49 : decode prog_1_method_2_code 49 = .ok (.iconst 2, 1) := by decide +kernel
theorem d_Gr_table_50 : decode prog_1_method_2_code 50 = .ok (.goto 4, 3) := by decide +kernel
theorem d_Gr_table_53 : decode prog_1_method_2_code 53 = .ok (.iconst 1, 1) := by decide +kernel
theorem d_Gr_table_54 : decode prog_1_method_2_code 54 = .ok (.putfield 64, 3) := by decide +kernel
theorem d_Gr_table_57 : decode prog_1_method_2_code 57 = .ok (.aload_n 0, 1) := by decide +kernel
theorem d_Gr_table_58 : decode prog_1_method_2_code 58 = .ok (.getfield 11, 3) := by decide +kernel
theorem d_Gr_table_61 : decode prog_1_method_2_code 61 = .ok (.iload_n 1, 1) := by decide +kernel
theorem d_Gr_table_62 : decode prog_1_method_2_code 62 = .ok (.aaload, 1) := by decide +kernel
theorem d_Gr_table_63 : decode prog_1_method_2_code 63 = .ok (.getfield 67, 3) := by decide +kernel
theorem d_Gr_table_66 : decode prog_1_method_2_code 66 = .ok (.iload_n 2, 1) := by decide +kernel
theorem d_Gr_table_67 : decode prog_1_method_2_code 67 = .ok (.iload_n 3, 1) := by decide +kernel
theorem d_Gr_table_68 : decode prog_1_method_2_code 68 = .ok (.iload 4, 2) := by decide +kernel
theorem d_Gr_table_70 : decode prog_1_method_2_code 70 = .ok (.invokevirtual 70, 3) := by decide +kernel
theorem d_Gr_table_73 : decode prog_1_method_2_code 73 = .ok (.pop, 1) := by decide +kernel
theorem d_Gr_table_74 : decode prog_1_method_2_code 74 = .ok (.aload_n 0, 1) := by decide +kernel
theorem d_Gr_table_75 : decode prog_1_method_2_code 75 = .ok (.getfield 11, 3) := by decide +kernel
theorem d_Gr_table_78 : decode prog_1_method_2_code 78 = .ok (.iload_n 1, 1) := by decide +kernel
theorem d_Gr_table_79 : decode prog_1_method_2_code 79 = .ok (.aaload, 1) := by decide +kernel
theorem d_Gr_table_80 : decode prog_1_method_2_code 80 = .ok (.getfield 67, 3) := by decide +kernel
theorem d_Gr_table_83 : decode prog_1_method_2_code 83 = .ok (.invokevirtual 74, 3) := by decide +kernel
theorem d_Gr_table_86 : decode prog_1_method_2_code 86 = .ok (.aload_n 0, 1) := by decide +kernel
theorem d_Gr_table_87 : decode prog_1_method_2_code 87 = .ok (.invokevirtual 77, 3) := by decide +kernel
theorem d_Gr_table_90 : decode prog_1_method_2_code 90 = .ok (.return_, 1) := by decide +kernel
theorem d_Gr_isFree_0 : decode prog_1_method_18_code 0 = .ok (.iload_n 1, 1) := by decide +kernel
theorem d_Gr_isFree_1 : decode prog_1_method_18_code 1 = .ok (.invokestatic 80, 3) := by decide +kernel
theorem d_Gr_isFree_4 : decode prog_1_method_18_code 4 = .ok (.ifCond .eq 19, 3) := by decide +kernel
theorem d_Gr_isFree_7 : decode prog_1_method_18_code 7 = .ok (.aload_n 0, 1) := by decide +kernel
theorem d_Gr_isFree_8 : decode prog_1_method_18_code 8 = .ok (.getfield 11, 3) := by decide +kernel
theorem d_Gr_isFree_11 : decode prog_1_method_18_code 11 = .ok (.iload_n 1, 1) := by decide +kernel
theorem d_Gr_isFree_12 : decode prog_1_method_18_code 12 = .ok (.aaload, 1) := by decide +kernel
theorem d_Gr_isFree_13 : decode prog_1_method_18_code 13 = .ok (.getfield 64, 3) := by decide +kernel
theorem d_Gr_isFree_16 : decode prog_1_method_18_code 16 = .ok (.ifCond .ne 7, 3) := by decide +kernel
theorem d_Gr_isFree_19 : decode prog_1_method_18_code 19 = .ok (.iconst 1, 1) := by decide +kernel
theorem d_Gr_isFree_20 : decode prog_1_method_18_code 20 = .ok (.goto 4, 3) := by decide +kernel
theorem d_Gr_isFree_23 : decode prog_1_method_18_code 23 = .ok (.iconst 0, 1) := by decide +kernel
theorem d_Gr_isFree_24 : decode prog_1_method_18_code 24 = .ok (.ireturn, 1) := by decide +kernel
theorem d_Gr_isSlot_0 : decode prog_1_method_12_code 0 = .ok (.iload_n 0, 1) := by decide +kernel
theorem d_Gr_isSlot_1 : decode prog_1_method_12_code 1 = .ok (.ifCond .lt 13, 3) := by decide +kernel
theorem d_Gr_isSlot_4 : decode prog_1_method_12_code 4 = .ok (.iload_n 0, 1) := by decide +kernel
theorem d_Gr_isSlot_5 : decode prog_1_method_12_code 5 = .ok (.bipush 20, 2) := by decide +kernel
theorem d_Gr_isSlot_7 : decode prog_1_method_12_code 7 = .ok (.if_icmp .ge 7, 3) := by decide +kernel
theorem d_Gr_isSlot_10 : decode prog_1_method_12_code 10 = .ok (.iconst 1, 1) := by decide +kernel
theorem d_Gr_isSlot_11 : decode prog_1_method_12_code 11 = .ok (.goto 4, 3) := by decide +kernel
theorem d_Gr_isSlot_14 : decode prog_1_method_12_code 14 = .ok (.iconst 0, 1) := by decide +kernel
theorem d_Gr_isSlot_15 : decode prog_1_method_12_code 15 = .ok (.ireturn, 1) := by decide +kernel
theorem d_Gr_isType_0 : decode prog_1_method_13_code 0 = .ok (.iload_n 0, 1) := by decide +kernel
theorem d_Gr_isType_1 : decode prog_1_method_13_code 1 = .ok (.ifCond .eq 8, 3) := by decide +kernel
theorem d_Gr_isType_4 : decode prog_1_method_13_code 4 = .ok (.iload_n 0, 1) := by decide +kernel
theorem d_Gr_isType_5 : decode prog_1_method_13_code 5 = .ok (.iconst 1, 1) := by decide +kernel
theorem d_Gr_isType_6 : decode prog_1_method_13_code 6 = .ok (.if_icmp .ne 7, 3) := by decide +kernel
theorem d_Gr_isType_9 : decode prog_1_method_13_code 9 = .ok (.iconst 1, 1) := by decide +kernel
theorem d_Gr_isType_10 : decode prog_1_method_13_code 10 = .ok (.goto 4, 3) := by decide +kernel
theorem d_Gr_isType_13 : decode prog_1_method_13_code 13 = .ok (.iconst 0, 1) := by decide +kernel
theorem d_Gr_isType_14 : decode prog_1_method_13_code 14 = .ok (.ireturn, 1) := by decide +kernel
theorem d_Gr_isSide_0 : decode prog_1_method_14_code 0 = .ok (.iload_n 0, 1) := by decide +kernel
theorem d_Gr_isSide_1 : decode prog_1_method_14_code 1 = .ok (.iconst 1, 1) := by decide +kernel
theorem d_Gr_isSide_2 : decode prog_1_method_14_code 2 = .ok (.if_icmp .lt 12, 3) := by decide +kernel
theorem d_Gr_isSide_5 : decode prog_1_method_14_code 5 = .ok (.iload_n 0, 1) := by decide +kernel
theorem d_Gr_isSide_6 : decode prog_1_method_14_code 6 = .ok (.iconst 4, 1) := by decide +kernel
theorem d_Gr_isSide_7 : decode prog_1_method_14_code 7 = .ok (.if_icmp .gt 7, 3) := by decide +kernel
theorem d_Gr_isSide_10 : decode prog_1_method_14_code 10 = .ok (.iconst 1, 1) := by decide +kernel
theorem d_Gr_isSide_11 : decode prog_1_method_14_code 11 = .ok (.goto 4, 3) := by decide +kernel
theorem d_Gr_isSide_14 : decode prog_1_method_14_code 14 = .ok (.iconst 0, 1) := by decide +kernel
theorem d_Gr_isSide_15 : decode prog_1_method_14_code 15 = .ok (.ireturn, 1) := by decide +kernel
theorem d_Gr_unprepare_0 : decode prog_1_method_23_code 0 = .ok (.aload_n 0, 1) := by decide +kernel
theorem d_Gr_unprepare_1 : decode prog_1_method_23_code 1 = .ok (.iconst 0, 1) := by decide +kernel
theorem d_Gr_unprepare_2 : decode prog_1_method_23_code 2 = .ok (.putfield 39, 3) := by decide +kernel
theorem d_Gr_unprepare_5 : decode prog_1_method_23_code 5 = .ok (.aload_n 0, 1) := by decide +kernel
theorem d_Gr_unprepare_6 : decode prog_1_method_23_code 6 = .ok (.invokevirtual 101, 3) := by decide +kernel
theorem d_Gr_unprepare_9 : decode prog_1_method_23_code 9 = .ok (.iconst 0, 1) := by decide +kernel
theorem d_Gr_unprepare_10 : decode prog_1_method_23_code 10 = .ok (.istore_n 1, 1) := by decide +kernel
theorem d_Gr_unprepare_11 : decode prog_1_method_23_code 11 = .ok (.iload_n 1, 1) := by decide +kernel
theorem d_Gr_unprepare_12 : decode prog_1_method_23_code 12 = .ok (.aload_n 0, 1) := by decide +kernel
