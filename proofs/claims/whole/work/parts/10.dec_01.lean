theorem d_Gr_unprepare_13 : decode prog_1_method_23_code 13 = .ok (.getfield 35, 3) := by decide +kernel
theorem d_Gr_unprepare_16 : decode prog_1_method_23_code 16 = .ok (.if_icmp .ge 19, 3) := by decide +kernel
theorem d_Gr_unprepare_19 : decode prog_1_method_23_code 19 = .ok (.aload_n 0, 1) := by decide +kernel
theorem d_Gr_unprepare_20 : decode prog_1_method_23_code 20 = .ok (.getfield 17, 3) := by decide +kernel
theorem d_Gr_unprepare_23 : decode prog_1_method_23_code 23 = .ok (.iload_n 1, 1) := by decide +kernel
theorem d_Gr_unprepare_24 : decode prog_1_method_23_code 24 = .ok (.aaload, 1) := by decide +kernel
theorem d_Gr_unprepare_25 : decode prog_1_method_23_code 25 = .ok (.iconst 0, 1) := by decide +kernel
theorem d_Gr_unprepare_26 : decode prog_1_method_23_code 26 = .ok (.putfield 187, 3) := by decide +kernel
theorem d_Gr_unprepare_29 : decode prog_1_method_23_code 29 = .ok (.iinc 1 1, 3) := by decide +kernel
theorem d_Gr_unprepare_32 : decode prog_1_method_23_code 32 = .ok (.goto (-21), 3) := by decide +kernel
theorem d_Gr_unprepare_35 : decode prog_1_method_23_code 35 = .ok (.return_, 1) := by decide +kernel
theorem d_Gr_forgetKnown_0 : decode prog_1_method_24_code 0 = .ok (.iconst 0, 1) := by decide +kernel
theorem d_Gr_forgetKnown_1 : decode prog_1_method_24_code 1 = .ok (.istore_n 1, 1) := by decide +kernel
theorem d_Gr_forgetKnown_2 : decode prog_1_method_24_code 2 = .ok (.iload_n 1, 1) := by decide +kernel
theorem d_Gr_forgetKnown_3 : decode prog_1_method_24_code 3 = .ok (.aload_n 0, 1) := by decide +kernel
theorem d_Gr_forgetKnown_4 : decode prog_1_method_24_code 4 = .ok (.getfield 35, 3) := by decide +kernel
theorem d_Gr_forgetKnown_7 : decode prog_1_method_24_code 7 = .ok (.if_icmp .ge 19, 3) := by decide +kernel
theorem d_Gr_forgetKnown_10 : decode prog_1_method_24_code 10 = .ok (.aload_n 0, 1) := by decide +kernel
theorem d_Gr_forgetKnown_11 : decode prog_1_method_24_code 11 = .ok (.getfield 17, 3) := by decide +kernel
theorem d_Gr_forgetKnown_14 : decode prog_1_method_24_code 14 = .ok (.iload_n 1, 1) := by decide +kernel
theorem d_Gr_forgetKnown_15 : decode prog_1_method_24_code 15 = .ok (.aaload, 1) := by decide +kernel
theorem d_Gr_forgetKnown_16 : decode prog_1_method_24_code 16 = .ok (.iconst 0, 1) := by decide +kernel
theorem d_Gr_forgetKnown_17 : decode prog_1_method_24_code 17 = .ok (.putfield 193, 3) := by decide +kernel
theorem d_Gr_forgetKnown_20 : decode prog_1_method_24_code 20 = .ok (.iinc 1 1, 3) := by decide +kernel
theorem d_Gr_forgetKnown_23 : decode prog_1_method_24_code 23 = .ok (.goto (-21), 3) := by decide +kernel
theorem d_Gr_forgetKnown_26 : decode prog_1_method_24_code 26 = .ok (.return_, 1) := by decide +kernel
theorem d_Gr_set_0 : decode prog_1_method_3_code 0 = .ok (.iload_n 1, 1) := by decide +kernel
theorem d_Gr_set_1 : decode prog_1_method_3_code 1 = .ok (.invokestatic 80, 3) := by decide +kernel
theorem d_Gr_set_4 : decode prog_1_method_3_code 4 = .ok (.ifCond .eq 48, 3) := by decide +kernel
theorem d_Gr_set_7 : decode prog_1_method_3_code 7 = .ok (.aload_n 0, 1) := by decide +kernel
theorem d_Gr_set_8 : decode prog_1_method_3_code 8 = .ok (.iload_n 1, 1) := by decide +kernel
theorem d_Gr_set_9 : decode prog_1_method_3_code 9 = .ok (.invokevirtual 83, 3) := by decide +kernel
theorem d_Gr_set_12 : decode prog_1_method_3_code 12 = .ok (.ifCond .eq 40, 3) := by decide +kernel
theorem d_Gr_set_15 : decode prog_1_method_3_code 15 = .ok (.aload_n 0, 1) := by decide +kernel
theorem d_Gr_set_16 : decode prog_1_method_3_code 16 = .ok (.getfield 11, 3) := by decide +kernel
theorem d_Gr_set_19 : decode prog_1_method_3_code 19 = .ok (.iload_n 1, 1) := by decide +kernel
theorem d_Gr_set_20 : decode prog_1_method_3_code 20 = .ok (.aaload, 1) := by decide +kernel
theorem d_Gr_set_21 : decode prog_1_method_3_code 21 = .ok (.getfield 67, 3) := by decide +kernel
theorem d_Gr_set_24 : decode prog_1_method_3_code 24 = .ok (.iload_n 2, 1) := by decide +kernel
theorem d_Gr_set_25 : decode prog_1_method_3_code 25 = .ok (.iload_n 3, 1) := by decide +kernel
theorem d_Gr_set_26 : decode prog_1_method_3_code 26 = .ok (.invokevirtual 86, 3) := by decide +kernel
theorem d_Gr_set_29 : decode prog_1_method_3_code 29 = .ok (.ifCond .eq 23, 3) := by decide +kernel
theorem d_Gr_set_32 : decode prog_1_method_3_code 32 = .ok (.aload_n 0, 1) := by decide +kernel
theorem d_Gr_set_33 : decode prog_1_method_3_code 33 = .ok (.getfield 11, 3) := by decide +kernel
theorem d_Gr_set_36 : decode prog_1_method_3_code 36 = .ok (.iload_n 1, 1) := by decide +kernel
theorem d_Gr_set_37 : decode prog_1_method_3_code 37 = .ok (.aaload, 1) := by decide +kernel
theorem d_Gr_set_38 : decode prog_1_method_3_code 38 = .ok (.getfield 67, 3) := by decide +kernel
theorem d_Gr_set_41 : decode prog_1_method_3_code 41 = .ok (.getfield 90, 3) := by decide +kernel
theorem d_Gr_set_44 : decode prog_1_method_3_code 44 = .ok (.dload 4, 2) := by decide +kernel
theorem d_Gr_set_46 : decode prog_1_method_3_code 46 = .ok (.invokestatic 93, 3) := by decide +kernel
theorem d_Gr_set_49 : decode prog_1_method_3_code 49 = .ok (.ifCond .ne 11, 3) := by decide +kernel
theorem d_Gr_set_52 : decode prog_1_method_3_code 52 = .ok (.new 61, 3) := by decide +kernel
theorem d_Gr_set_55 : decode prog_1_method_3_code 55 = .ok (.dup, 1) := by decide +kernel
theorem d_Gr_set_56 : decode prog_1_method_3_code 56 = .ok (.invokespecial 63, 3) := by decide +kernel
theorem d_Gr_set_59 : decode prog_1_method_3_code 59 = .ok (.athrow, 1) := by decide +kernel
theorem d_Gr_set_60 : decode prog_1_method_3_code 60 = .ok (.aload_n 0, 1) := by decide +kernel
theorem d_Gr_set_61 : decode prog_1_method_3_code 61 = .ok (.getfield 11, 3) := by decide +kernel
theorem d_Gr_set_64 : decode prog_1_method_3_code 64 = .ok (.iload_n 1, 1) := by decide +kernel
theorem d_Gr_set_65 : decode prog_1_method_3_code 65 = .ok (.aaload, 1) := by decide +kernel
theorem d_Gr_set_66 : decode prog_1_method_3_code 66 = .ok (.getfield 67, 3) := by decide +kernel
theorem d_Gr_set_69 : decode prog_1_method_3_code 69 = .ok (.iload_n 2, 1) := by decide +kernel
theorem d_Gr_set_70 : decode prog_1_method_3_code 70 = .ok (.iload_n 3, 1) := by decide +kernel
theorem d_Gr_set_71 : decode prog_1_method_3_code 71 = .ok (.aload_n 0, 1) := by decide +kernel
theorem d_Gr_set_72 : decode prog_1_method_3_code 72 = .ok (.getfield 11, 3) := by decide +kernel
theorem d_Gr_set_75 : decode prog_1_method_3_code 75 = .ok (.iload_n 1, 1) := by decide +kernel
theorem d_Gr_set_76 : decode prog_1_method_3_code 76 = .ok (.aaload, 1) := by decide +kernel
theorem d_Gr_set_77 : decode prog_1_method_3_code 77 = .ok (.getfield 67, 3) := by decide +kernel
theorem d_Gr_set_80 : decode prog_1_method_3_code 80 = .ok (.getfield 90, 3) := by decide +kernel
theorem d_Gr_set_83 : decode prog_1_method_3_code 83 = .ok (.iconst 1, 1) := by decide +kernel
theorem d_Gr_set_84 : decode prog_1_method_3_code 84 = .ok (.if_icmp .ne 10, 3) := by decide +kernel
theorem d_Gr_set_87 : decode prog_1_method_3_code 87 = .ok (.dload 4, 2) := by decide +kernel
theorem d_Gr_set_89 : decode prog_1_method_3_code 89 = .ok (.d2i, 1) := by decide +kernel
theorem d_Gr_set_90 : decode prog_1_method_3_code 90 = .ok (.i2d, 1) := by decide +kernel
theorem d_Gr_set_91 : decode prog_1_method_3_code 91 = .ok (.goto 5, 3) := by decide +kernel
theorem d_Gr_set_94 : decode prog_1_method_3_code 94 = .ok (.dload 4, 2) := by decide +kernel
theorem d_Gr_set_96 : decode prog_1_method_3_code 96 = .ok (.invokevirtual 97, 3) := by decide +kernel
theorem d_Gr_set_99 : decode prog_1_method_3_code 99 = .ok (.aload_n 0, 1) := by decide +kernel
theorem d_Gr_set_100 : decode prog_1_method_3_code 100 = .ok (.getfield 11, 3) := by decide +kernel
theorem d_Gr_set_103 : decode prog_1_method_3_code 103 = .ok (.iload_n 1, 1) := by decide +kernel
theorem d_Gr_set_104 : decode prog_1_method_3_code 104 = .ok (.aaload, 1) := by decide +kernel
theorem d_Gr_set_105 : decode prog_1_method_3_code 105 = .ok (.getfield 64, 3) := by decide +kernel
theorem d_Gr_set_108 : decode prog_1_method_3_code 108 = .ok (.iconst 2, 1) := by decide +kernel
theorem d_Gr_set_109 : decode prog_1_method_3_code 109 = .ok (.if_icmp .ne 10, 3) := by decide +kernel
theorem d_Gr_set_112 : decode prog_1_method_3_code 112 = .ok (.aload_n 0, 1) := by decide +kernel
theorem d_Gr_set_113 : decode prog_1_method_3_code 113 = .ok (.invokevirtual 77, 3) := by decide +kernel
theorem d_Gr_set_116 : decode prog_1_method_3_code 116 = .ok (.goto 7, 3) := by decide +kernel
theorem d_Gr_set_119 : decode prog_1_method_3_code 119 = .ok (.aload_n 0, 1) := by decide +kernel
theorem d_Gr_set_120 : decode prog_1_method_3_code 120 = .ok (.invokevirtual 101, 3) := by decide +kernel
theorem d_Gr_set_123 : decode prog_1_method_3_code 123 = .ok (.return_, 1) := by decide +kernel
theorem d_Gr_isFed_0 : decode prog_1_method_19_code 0 = .ok (.aload_n 0, 1) := by decide +kernel
theorem d_Gr_isFed_1 : decode prog_1_method_19_code 1 = .ok (.getfield 11, 3) := by decide +kernel
theorem d_Gr_isFed_4 : decode prog_1_method_19_code 4 = .ok (.iload_n 1, 1) := by decide +kernel
theorem d_Gr_isFed_5 : decode prog_1_method_19_code 5 = .ok (.aaload, 1) := by decide +kernel
theorem d_Gr_isFed_6 : decode prog_1_method_19_code 6 = .ok (.getfield 64, 3) := by decide +kernel
theorem d_Gr_isFed_9 : decode prog_1_method_19_code 9 = .ok (.iconst 1, 1) := by decide +kernel
theorem d_Gr_isFed_10 : decode prog_1_method_19_code 10 = .ok (.if_icmp .eq 16, 3) := by decide +kernel
theorem d_Gr_isFed_13 : decode prog_1_method_19_code 13 = .ok (.aload_n 0, 1) := by decide +kernel
theorem d_Gr_isFed_14 : decode prog_1_method_19_code 14 = .ok (.getfield 11, 3) := by decide +kernel
theorem d_Gr_isFed_17 : decode prog_1_method_19_code 17 = .ok (.iload_n 1, 1) := by decide +kernel
theorem d_Gr_isFed_18 : decode prog_1_method_19_code 18 = .ok (.aaload, 1) := by decide +kernel
theorem d_Gr_isFed_19 : decode prog_1_method_19_code 19 = .ok (.getfield 64, 3) := by decide +kernel
theorem d_Gr_isFed_22 : decode prog_1_method_19_code 22 = .ok (.iconst 2, 1) := by decide +kernel
theorem d_Gr_isFed_23 : decode prog_1_method_19_code 23 = .ok (.if_icmp .ne 7, 3) := by decide +kernel
theorem d_Gr_isFed_26 : decode prog_1_method_19_code 26 = .ok (.iconst 1, 1) := by decide +kernel
theorem d_Gr_isFed_27 : decode prog_1_method_19_code 27 = .ok (.goto 4, 3) := by decide +kernel
theorem d_Gr_isFed_30 : decode prog_1_method_19_code 30 = .ok (.iconst 0, 1) := by decide +kernel
theorem d_Gr_isFed_31 : decode prog_1_method_19_code 31 = .ok (.ireturn, 1) := by decide +kernel
theorem d_Gr_isSettable_0 : decode prog_1_method_16_code 0 = .ok (.dload_n 1, 1) := by decide +kernel
theorem d_Gr_isSettable_1 : decode prog_1_method_16_code 1 = .ok (.ldc2_w 180, 3) := by decide +kernel
theorem d_Gr_isSettable_4 : decode prog_1_method_16_code 4 = .ok (.dcmp .l, 1) := by decide +kernel
theorem d_Gr_isSettable_5 : decode prog_1_method_16_code 5 = .ok (.ifCond .lt 15, 3) := by decide +kernel
theorem d_Gr_isSettable_8 : decode prog_1_method_16_code 8 = .ok (.dload_n 1, 1) := by decide +kernel
theorem d_Gr_isSettable_9 : decode prog_1_method_16_code 9 = .ok (.ldc2_w 182, 3) := by decide +kernel
theorem d_Gr_isSettable_12 : decode prog_1_method_16_code 12 = .ok (.dcmp .g, 1) := by decide +kernel
theorem d_Gr_isSettable_13 : decode prog_1_method_16_code 13 = .ok (.ifCond .gt 7, 3) := by decide +kernel
theorem d_Gr_isSettable_16 : decode prog_1_method_16_code 16 = .ok (.iconst 1, 1) := by decide +kernel
theorem d_Gr_isSettable_17 : decode prog_1_method_16_code 17 = .ok (.goto 4, 3) := by decide +kernel
theorem d_Gr_isSettable_20 : decode prog_1_method_16_code 20 = .ok (.iconst 0, 1) := by decide +kernel
theorem d_Gr_isSettable_21 : decode prog_1_method_16_code 21 = .ok (.istore_n 3, 1) := by decide +kernel
theorem d_Gr_isSettable_22 : decode prog_1_method_16_code 22 = .ok (.iload_n 3, 1) := by decide +kernel
theorem d_Gr_isSettable_23 : decode prog_1_method_16_code 23 = .ok (.ifCond .eq 19, 3) := by decide +kernel
theorem d_Gr_isSettable_26 : decode prog_1_method_16_code 26 = .ok (.iload_n 0, 1) := by decide +kernel
theorem d_Gr_isSettable_27 : decode prog_1_method_16_code 27 = .ok (.ifCond .eq 11, 3) := by decide +kernel
theorem d_Gr_isSettable_30 : decode prog_1_method_16_code 30 = .ok (.dload_n 1, 1) := by decide +kernel
theorem d_Gr_isSettable_31 : decode prog_1_method_16_code 31 = .ok (.dload_n 1, 1) := by decide +kernel
theorem d_Gr_isSettable_32 : decode prog_1_method_16_code 32 = .ok (.d2i, 1) := by decide +kernel
theorem d_Gr_isSettable_33 : decode prog_1_method_16_code 33 = .ok (.i2d, 1) := by decide +kernel
theorem d_Gr_isSettable_34 : decode prog_1_method_16_code 34 = .ok (.dcmp .l, 1) := by decide +kernel
theorem d_Gr_isSettable_35 : decode prog_1_method_16_code 35 = .ok (.ifCond .ne 7, 3) := by decide +kernel
theorem d_Gr_isSettable_38 : decode prog_1_method_16_code 38 = .ok (.iconst 1, 1) := by decide +kernel
theorem d_Gr_isSettable_39 : decode prog_1_method_16_code 39 = .ok (.goto 4, 3) := by decide +kernel
theorem d_Gr_isSettable_42 : decode prog_1_method_16_code 42 = .ok (.iconst 0, 1) := by decide +kernel
theorem d_Gr_isSettable_43 : decode prog_1_method_16_code 43 = .ok (.ireturn, 1) := by decide +kernel
theorem d_Gr_node_0 : decode prog_1_method_4_code 0 = .ok (.iload_n 1, 1) := by decide +kernel
theorem d_Gr_node_1 : decode prog_1_method_4_code 1 = .ok (.ifCond .lt 49, 3) := by decide +kernel
theorem d_Gr_node_4 : decode prog_1_method_4_code 4 = .ok (.iload_n 1, 1) := by decide +kernel
theorem d_Gr_node_5 : decode prog_1_method_4_code 5 = .ok (.bipush 18, 2) := by decide +kernel
theorem d_Gr_node_7 : decode prog_1_method_4_code 7 = .ok (.if_icmp .gt 43, 3) := by decide +kernel
theorem d_Gr_node_10 : decode prog_1_method_4_code 10 = .ok (.getstatic 104, 3) := by decide +kernel
theorem d_Gr_node_13 : decode prog_1_method_4_code 13 = .ok (.iload_n 1, 1) := by decide +kernel
theorem d_Gr_node_14 : decode prog_1_method_4_code 14 = .ok (.iaload, 1) := by decide +kernel
theorem d_Gr_node_15 : decode prog_1_method_4_code 15 = .ok (.iload_n 2, 1) := by decide +kernel
theorem d_Gr_node_16 : decode prog_1_method_4_code 16 = .ok (.iload_n 3, 1) := by decide +kernel
theorem d_Gr_node_17 : decode prog_1_method_4_code 17 = .ok (.iload 4, 2) := by decide +kernel
theorem d_Gr_node_19 : decode prog_1_method_4_code 19 = .ok (.invokestatic 107, 3) := by decide +kernel
theorem d_Gr_node_22 : decode prog_1_method_4_code 22 = .ok (.ifCond .eq 28, 3) := by decide +kernel
theorem d_Gr_node_25 : decode prog_1_method_4_code 25 = .ok (.aload_n 0, 1) := by decide +kernel
theorem d_Gr_node_26 : decode prog_1_method_4_code 26 = .ok (.iload 5, 2) := by decide +kernel
theorem d_Gr_node_28 : decode prog_1_method_4_code 28 = .ok (.invokevirtual 51, 3) := by decide +kernel
theorem d_Gr_node_31 : decode prog_1_method_4_code 31 = .ok (.ifCond .eq 19, 3) := by decide +kernel
theorem d_Gr_node_34 : decode prog_1_method_4_code 34 = .ok (.iload 6, 2) := by decide +kernel
theorem d_Gr_node_36 : decode prog_1_method_4_code 36 = .ok (.invokestatic 111, 3) := by decide +kernel
theorem d_Gr_node_39 : decode prog_1_method_4_code 39 = .ok (.ifCond .eq 11, 3) := by decide +kernel
theorem d_Gr_node_42 : decode prog_1_method_4_code 42 = .ok (.iload 7, 2) := by decide +kernel
theorem d_Gr_node_44 : decode prog_1_method_4_code 44 = .ok (.invokestatic 111, 3) := by decide +kernel
theorem d_Gr_node_47 : decode prog_1_method_4_code 47 = .ok (.ifCond .ne 11, 3) := by decide +kernel
theorem d_Gr_node_50 : decode prog_1_method_4_code 50 = .ok (.new 61, 3) := by decide +kernel
theorem d_Gr_node_53 : decode prog_1_method_4_code 53 = .ok (.dup, 1) := by decide +kernel
theorem d_Gr_node_54 : decode prog_1_method_4_code 54 = .ok (.invokespecial 63, 3) := by decide +kernel
theorem d_Gr_node_57 : decode prog_1_method_4_code 57 = .ok (.athrow, 1) := by decide +kernel
theorem d_Gr_node_58 : decode prog_1_method_4_code 58 = .ok (.aload_n 0, 1) := by decide +kernel
theorem d_Gr_node_59 : decode prog_1_method_4_code 59 = .ok (.getfield 35, 3) := by decide +kernel
theorem d_Gr_node_62 : decode prog_1_method_4_code 62 = .ok (.bipush 14, 2) := by decide +kernel
theorem d_Gr_node_64 : decode prog_1_method_4_code 64 = .ok (.if_icmp .lt 11, 3) := by decide +kernel
theorem d_Gr_node_67 : decode prog_1_method_4_code 67 = .ok (.new 114, 3) := by decide +kernel
theorem d_Gr_node_70 : decode prog_1_method_4_code 70 = .ok (.dup, 1) := by decide +kernel
theorem d_Gr_node_71 : decode prog_1_method_4_code 71 = .ok (.invokespecial 116, 3) := by decide +kernel
theorem d_Gr_node_74 : decode prog_1_method_4_code 74 = .ok (.athrow, 1) := by decide +kernel
theorem d_Gr_node_75 : decode prog_1_method_4_code 75 = .ok (.aload_n 0, 1) := by decide +kernel
theorem d_Gr_node_76 : decode prog_1_method_4_code 76 = .ok (.getfield 17, 3) := by decide +kernel
theorem d_Gr_node_79 : decode prog_1_method_4_code 79 = .ok (.aload_n 0, 1) := by decide +kernel
theorem d_Gr_node_80 : decode prog_1_method_4_code 80 = .ok (.getfield 35, 3) := by decide +kernel
theorem d_Gr_node_83 : decode prog_1_method_4_code 83 = .ok (.aaload, 1) := by decide +kernel
theorem d_Gr_node_84 : decode prog_1_method_4_code 84 = .ok (.iload_n 1, 1) := by decide +kernel
theorem d_Gr_node_85 : decode prog_1_method_4_code 85 = .ok (.iload 5, 2) := by decide +kernel
theorem d_Gr_node_87 : decode prog_1_method_4_code 87 = .ok (.iload 6, 2) := by decide +kernel
theorem d_Gr_node_89 : decode prog_1_method_4_code 89 = .ok (.iload 7, 2) := by decide +kernel
theorem d_Gr_node_91 : decode prog_1_method_4_code 91 = .ok (.invokevirtual 117, 3) := by decide +kernel
theorem d_Gr_node_94 : decode prog_1_method_4_code 94 = .ok (.aload_n 0, 1) := by decide +kernel
theorem d_Gr_node_95 : decode prog_1_method_4_code 95 = .ok (.getfield 17, 3) := by decide +kernel
theorem d_Gr_node_98 : decode prog_1_method_4_code 98 = .ok (.aload_n 0, 1) := by decide +kernel
theorem d_Gr_node_99 : decode prog_1_method_4_code 99 = .ok (.getfield 35, 3) := by decide +kernel
theorem d_Gr_node_102 : decode prog_1_method_4_code 102 = .ok (.aaload, 1) := by decide +kernel
theorem d_Gr_node_103 : decode prog_1_method_4_code 103 = .ok (.iload_n 2, 1) := by decide +kernel
theorem d_Gr_node_104 : decode prog_1_method_4_code 104 = .ok (.iload_n 3, 1) := by decide +kernel
theorem d_Gr_node_105 : decode prog_1_method_4_code 105 = .ok (.iload 4, 2) := by decide +kernel
theorem d_Gr_node_107 : decode prog_1_method_4_code 107 = .ok (.invokevirtual 121, 3) := by decide +kernel
theorem d_Gr_node_110 : decode prog_1_method_4_code 110 = .ok (.aload_n 0, 1) := by decide +kernel
theorem d_Gr_node_111 : decode prog_1_method_4_code 111 = .ok (.getfield 11, 3) := by decide +kernel
theorem d_Gr_node_114 : decode prog_1_method_4_code 114 = .ok (.iload 5, 2) := by decide +kernel
theorem d_Gr_node_116 : decode prog_1_method_4_code 116 = .ok (.aaload, 1) := by decide +kernel
theorem d_Gr_node_117 : decode prog_1_method_4_code 117 = .ok (.iconst 3, 1) := by decide +kernel
theorem d_Gr_node_118 : decode prog_1_method_4_code 118 = .ok (.putfield 64, 3) := by decide +kernel
theorem d_Gr_node_121 : decode prog_1_method_4_code 121 = .ok (.aload_n 0, 1) := by decide +kernel
theorem d_Gr_node_122 : decode prog_1_method_4_code 122 = .ok (.getfield 11, 3) := by decide +kernel
theorem d_Gr_node_125 : decode prog_1_method_4_code 125 = .ok (.iload 5, 2) := by decide +kernel
theorem d_Gr_node_127 : decode prog_1_method_4_code 127 = .ok (.aaload, 1) := by decide +kernel
theorem d_Gr_node_128 : decode prog_1_method_4_code 128 = .ok (.aload_n 0, 1) := by decide +kernel
theorem d_Gr_node_129 : decode prog_1_method_4_code 129 = .ok (.getfield 35, 3) := by decide +kernel
theorem d_Gr_node_132 : decode prog_1_method_4_code 132 = .ok (.putfield 125, 3) := by decide +kernel
theorem d_Gr_node_135 : decode prog_1_method_4_code 135 = .ok (.aload_n 0, 1) := by decide +kernel
theorem d_Gr_node_136 : decode prog_1_method_4_code 136 = .ok (.dup, 1) := by decide +kernel
theorem d_Gr_node_137 : decode prog_1_method_4_code 137 = .ok (.getfield 35, 3) := by decide +kernel
theorem d_Gr_node_140 : decode prog_1_method_4_code 140 = .ok (.iconst 1, 1) := by decide +kernel
theorem d_Gr_node_141 : decode prog_1_method_4_code 141 = .ok (.iadd, 1) := by decide +kernel
theorem d_Gr_node_142 : decode prog_1_method_4_code 142 = .ok (.putfield 35, 3) := by decide +kernel
theorem d_Gr_node_145 : decode prog_1_method_4_code 145 = .ok (.aload_n 0, 1) := by decide +kernel
theorem d_Gr_node_146 : decode prog_1_method_4_code 146 = .ok (.invokevirtual 77, 3) := by decide +kernel
theorem d_Gr_node_149 : decode prog_1_method_4_code 149 = .ok (.aload_n 0, 1) := by decide +kernel
theorem d_Gr_node_150 : decode prog_1_method_4_code 150 = .ok (.getfield 35, 3) := by decide +kernel
theorem d_Gr_node_153 : decode prog_1_method_4_code 153 = .ok (.iconst 1, 1) := by decide +kernel
theorem d_Gr_node_154 : decode prog_1_method_4_code 154 = .ok (.isub, 1) := by decide +kernel
theorem d_Gr_node_155 : decode prog_1_method_4_code 155 = .ok (.ireturn, 1) := by decide +kernel
theorem d_Gr_areArguments_0 : decode prog_1_method_17_code 0 = .ok (.iload_n 1, 1) := by decide +kernel
theorem d_Gr_areArguments_1 : decode prog_1_method_17_code 1 = .ok (.invokestatic 80, 3) := by decide +kernel
theorem d_Gr_areArguments_4 : decode prog_1_method_17_code 4 = .ok (.ifCond .eq 47, 3) := by decide +kernel
theorem d_Gr_areArguments_7 : decode prog_1_method_17_code 7 = .ok (.iload_n 0, 1) := by decide +kernel
theorem d_Gr_areArguments_8 : decode prog_1_method_17_code 8 = .ok (.iconst 2, 1) := by decide +kernel
theorem d_Gr_areArguments_9 : decode prog_1_method_17_code 9 = .ok (.if_icmp .lt 13, 3) := by decide +kernel
theorem d_Gr_areArguments_12 : decode prog_1_method_17_code 12 = .ok (.iload_n 2, 1) := by decide +kernel
theorem d_Gr_areArguments_13 : decode prog_1_method_17_code 13 = .ok (.invokestatic 80, 3) := by decide +kernel
theorem d_Gr_areArguments_16 : decode prog_1_method_17_code 16 = .ok (.ifCond .eq 35, 3) := by decide +kernel
theorem d_Gr_areArguments_19 : decode prog_1_method_17_code 19 = .ok (.goto 8, 3) := by decide +kernel
theorem d_Gr_areArguments_22 : decode prog_1_method_17_code 22 = .ok (.iload_n 2, 1) := by decide +kernel
theorem d_Gr_areArguments_23 : decode prog_1_method_17_code 23 = .ok (.iconst (-1), 1) := by decide +kernel
theorem d_Gr_areArguments_24 : decode prog_1_method_17_code 24 = .ok (.if_icmp .ne 27, 3) := by decide +kernel
theorem d_Gr_areArguments_27 : decode prog_1_method_17_code 27 = .ok (.iload_n 0, 1) := by decide +kernel
theorem d_Gr_areArguments_28 : decode prog_1_method_17_code 28 = .ok (.iconst 3, 1) := by decide +kernel
theorem d_Gr_areArguments_29 : decode prog_1_method_17_code 29 = .ok (.if_icmp .lt 13, 3) := by decide +kernel
theorem d_Gr_areArguments_32 : decode prog_1_method_17_code 32 = .ok (.iload_n 3, 1) := by decide +kernel
theorem d_Gr_areArguments_33 : decode prog_1_method_17_code 33 = .ok (.invokestatic 80, 3) := by decide +kernel
theorem d_Gr_areArguments_36 : decode prog_1_method_17_code 36 = .ok (.ifCond .eq 15, 3) := by decide +kernel
theorem d_Gr_areArguments_39 : decode prog_1_method_17_code 39 = .ok (.goto 8, 3) := by decide +kernel
theorem d_Gr_areArguments_42 : decode prog_1_method_17_code 42 = .ok (.iload_n 3, 1) := by decide +kernel
theorem d_Gr_areArguments_43 : decode prog_1_method_17_code 43 = .ok (.iconst (-1), 1) := by decide +kernel
theorem d_Gr_areArguments_44 : decode prog_1_method_17_code 44 = .ok (.if_icmp .ne 7, 3) := by decide +kernel
theorem d_Gr_areArguments_47 : decode prog_1_method_17_code 47 = .ok (.iconst 1, 1) := by decide +kernel
theorem d_Gr_areArguments_48 : decode prog_1_method_17_code 48 = .ok (.goto 4, 3) := by decide +kernel
theorem d_Gr_areArguments_51 : decode prog_1_method_17_code 51 = .ok (.iconst 0, 1) := by decide +kernel
theorem d_Gr_areArguments_52 : decode prog_1_method_17_code 52 = .ok (.ireturn, 1) := by decide +kernel
theorem d_Gr_isNumber_0 : decode prog_1_method_15_code 0 = .ok (.iload_n 0, 1) := by decide +kernel
theorem d_Gr_isNumber_1 : decode prog_1_method_15_code 1 = .ok (.bipush (-8), 2) := by decide +kernel
theorem d_Gr_isNumber_3 : decode prog_1_method_15_code 3 = .ok (.if_icmp .lt 13, 3) := by decide +kernel
theorem d_Gr_isNumber_6 : decode prog_1_method_15_code 6 = .ok (.iload_n 0, 1) := by decide +kernel
theorem d_Gr_isNumber_7 : decode prog_1_method_15_code 7 = .ok (.bipush 8, 2) := by decide +kernel
theorem d_Gr_isNumber_9 : decode prog_1_method_15_code 9 = .ok (.if_icmp .gt 7, 3) := by decide +kernel
theorem d_Gr_isNumber_12 : decode prog_1_method_15_code 12 = .ok (.iconst 1, 1) := by decide +kernel
theorem d_Gr_isNumber_13 : decode prog_1_method_15_code 13 = .ok (.goto 4, 3) := by decide +kernel
theorem d_Gr_isNumber_16 : decode prog_1_method_15_code 16 = .ok (.iconst 0, 1) := by decide +kernel
theorem d_Gr_isNumber_17 : decode prog_1_method_15_code 17 = .ok (.ireturn, 1) := by decide +kernel
theorem d_Gr_undo_0 : decode prog_1_method_5_code 0 = .ok (.aload_n 0, 1) := by decide +kernel
theorem d_Gr_undo_1 : decode prog_1_method_5_code 1 = .ok (.getfield 35, 3) := by decide +kernel
theorem d_Gr_undo_4 : decode prog_1_method_5_code 4 = .ok (.ifCond .ne 11, 3) := by decide +kernel
theorem d_Gr_undo_7 : decode prog_1_method_5_code 7 = .ok (.new 128, 3) := by decide +kernel
theorem d_Gr_undo_10 : decode prog_1_method_5_code 10 = .ok (.dup, 1) := by decide +kernel
theorem d_Gr_undo_11 : decode prog_1_method_5_code 11 = .ok (.invokespecial 130, 3) := by decide +kernel
theorem d_Gr_undo_14 : decode prog_1_method_5_code 14 = .ok (.athrow, 1) := by decide +kernel
theorem d_Gr_undo_15 : decode prog_1_method_5_code 15 = .ok (.aload_n 0, 1) := by decide +kernel
theorem d_Gr_undo_16 : decode prog_1_method_5_code 16 = .ok (.invokevirtual 77, 3) := by decide +kernel
theorem d_Gr_undo_19 : decode prog_1_method_5_code 19 = .ok (.aload_n 0, 1) := by decide +kernel
theorem d_Gr_undo_20 : decode prog_1_method_5_code 20 = .ok (.dup, 1) := by decide +kernel
theorem d_Gr_undo_21 : decode prog_1_method_5_code 21 = .ok (.getfield 35, 3) := by decide +kernel
theorem d_Gr_undo_24 : decode prog_1_method_5_code 24 = .ok (.iconst 1, 1) := by decide +kernel
theorem d_Gr_undo_25 : decode prog_1_method_5_code 25 = .ok (.isub, 1) := by decide +kernel
theorem d_Gr_undo_26 : decode prog_1_method_5_code 26 = .ok (.putfield 35, 3) := by decide +kernel
theorem d_Gr_undo_29 : decode prog_1_method_5_code 29 = .ok (.aload_n 0, 1) := by decide +kernel
theorem d_Gr_undo_30 : decode prog_1_method_5_code 30 = .ok (.getfield 11, 3) := by decide +kernel
theorem d_Gr_undo_33 : decode prog_1_method_5_code 33 = .ok (.aload_n 0, 1) := by decide +kernel
theorem d_Gr_undo_34 : decode prog_1_method_5_code 34 = .ok (.getfield 17, 3) := by decide +kernel
theorem d_Gr_undo_37 : decode prog_1_method_5_code 37 = .ok (.aload_n 0, 1) := by decide +kernel
theorem d_Gr_undo_38 : decode prog_1_method_5_code 38 = .ok (.getfield 35, 3) := by decide +kernel
theorem d_Gr_undo_41 : decode prog_1_method_5_code 41 = .ok (.aaload, 1) := by decide +kernel
theorem d_Gr_undo_42 : decode prog_1_method_5_code 42 = .ok (.getfield 131, 3) := by decide +kernel
theorem d_Gr_undo_45 : decode prog_1_method_5_code 45 = .ok (.aaload, 1) := by decide +kernel
theorem d_Gr_undo_46 : decode prog_1_method_5_code 46 = .ok (.iconst 0, 1) := by decide +kernel
theorem d_Gr_undo_47 : decode prog_1_method_5_code 47 = .ok (.putfield 64, 3) := by decide +kernel
theorem d_Gr_undo_50 : decode prog_1_method_5_code 50 = .ok (.return_, 1) := by decide +kernel
theorem d_Gr_prepare_0 : decode prog_1_method_6_code 0 = .ok (.aload_n 0, 1) := by decide +kernel
theorem d_Gr_prepare_1 : decode prog_1_method_6_code 1 = .ok (.getfield 39, 3) := by decide +kernel
theorem d_Gr_prepare_4 : decode prog_1_method_6_code 4 = .ok (.ifCond .ne 42, 3) := by decide +kernel
theorem d_Gr_prepare_7 : decode prog_1_method_6_code 7 = .ok (.aload_n 0, 1) := by decide +kernel
theorem d_Gr_prepare_8 : decode prog_1_method_6_code 8 = .ok (.invokevirtual 134, 3) := by decide +kernel
theorem d_Gr_prepare_11 : decode prog_1_method_6_code 11 = .ok (.ifCond .ne 11, 3) := by decide +kernel
theorem d_Gr_prepare_14 : decode prog_1_method_6_code 14 = .ok (.new 128, 3) := by decide +kernel
theorem d_Gr_prepare_17 : decode prog_1_method_6_code 17 = .ok (.dup, 1) := by decide +kernel
theorem d_Gr_prepare_18 : decode prog_1_method_6_code 18 = .ok (.invokespecial 130, 3) := by decide +kernel
theorem d_Gr_prepare_21 : decode prog_1_method_6_code 21 = .ok (.athrow, 1) := by decide +kernel
theorem d_Gr_prepare_22 : decode prog_1_method_6_code 22 = .ok (.aload_n 0, 1) := by decide +kernel
theorem d_Gr_prepare_23 : decode prog_1_method_6_code 23 = .ok (.invokevirtual 138, 3) := by decide +kernel
theorem d_Gr_prepare_26 : decode prog_1_method_6_code 26 = .ok (.ifCond .ne 11, 3) := by decide +kernel
theorem d_Gr_prepare_29 : decode prog_1_method_6_code 29 = .ok (.new 141, 3) := by decide +kernel
theorem d_Gr_prepare_32 : decode prog_1_method_6_code 32 = .ok (.dup, 1) := by decide +kernel
theorem d_Gr_prepare_33 : decode prog_1_method_6_code 33 = .ok (.invokespecial 143, 3) := by decide +kernel
theorem d_Gr_prepare_36 : decode prog_1_method_6_code 36 = .ok (.athrow, 1) := by decide +kernel
theorem d_Gr_prepare_37 : decode prog_1_method_6_code 37 = .ok (.aload_n 0, 1) := by decide +kernel
theorem d_Gr_prepare_38 : decode prog_1_method_6_code 38 = .ok (.invokevirtual 144, 3) := by decide +kernel
theorem d_Gr_prepare_41 : decode prog_1_method_6_code 41 = .ok (.aload_n 0, 1) := by decide +kernel
theorem d_Gr_prepare_42 : decode prog_1_method_6_code 42 = .ok (.iconst 1, 1) := by decide +kernel
theorem d_Gr_prepare_43 : decode prog_1_method_6_code 43 = .ok (.putfield 39, 3) := by decide +kernel
theorem d_Gr_prepare_46 : decode prog_1_method_6_code 46 = .ok (.aload_n 0, 1) := by decide +kernel
theorem d_Gr_prepare_47 : decode prog_1_method_6_code 47 = .ok (.invokevirtual 147, 3) := by decide +kernel
theorem d_Gr_prepare_50 : decode prog_1_method_6_code 50 = .ok (.ireturn, 1) := by decide +kernel
theorem d_Gr_orderNodes_0 : decode prog_1_method_27_code 0 = .ok (.iconst 0, 1) := by decide +kernel
theorem d_Gr_orderNodes_1 : decode prog_1_method_27_code 1 = .ok (.istore_n 1, 1) := by decide +kernel
theorem d_Gr_orderNodes_2 : decode prog_1_method_27_code 2 = .ok (.iload_n 1, 1) := by decide +kernel
theorem d_Gr_orderNodes_3 : decode prog_1_method_27_code 3 = .ok (.aload_n 0, 1) := by decide +kernel
theorem d_Gr_orderNodes_4 : decode prog_1_method_27_code 4 = .ok (.getfield 35, 3) := by decide +kernel
theorem d_Gr_orderNodes_7 : decode prog_1_method_27_code 7 = .ok (.if_icmp .ge 19, 3) := by decide +kernel
theorem d_Gr_orderNodes_10 : decode prog_1_method_27_code 10 = .ok (.aload_n 0, 1) := by decide +kernel
theorem d_Gr_orderNodes_11 : decode prog_1_method_27_code 11 = .ok (.getfield 17, 3) := by decide +kernel
theorem d_Gr_orderNodes_14 : decode prog_1_method_27_code 14 = .ok (.iload_n 1, 1) := by decide +kernel
theorem d_Gr_orderNodes_15 : decode prog_1_method_27_code 15 = .ok (.aaload, 1) := by decide +kernel
theorem d_Gr_orderNodes_16 : decode prog_1_method_27_code 16 = .ok (.iconst 0, 1) := by decide +kernel
theorem d_Gr_orderNodes_17 : decode prog_1_method_27_code 17 = .ok (.putfield 184, 3) := by decide +kernel
theorem d_Gr_orderNodes_20 : decode prog_1_method_27_code 20 = .ok (.iinc 1 1, 3) := by decide +kernel
theorem d_Gr_orderNodes_23 : decode prog_1_method_27_code 23 = .ok (.goto (-21), 3) := by decide +kernel
theorem d_Gr_orderNodes_26 : decode prog_1_method_27_code 26 = .ok (.iconst 0, 1) := by decide +kernel
theorem d_Gr_orderNodes_27 : decode prog_1_method_27_code 27 = .ok (.istore_n 1, 1) := by decide +kernel
theorem d_Gr_orderNodes_28 : decode prog_1_method_27_code 28 = .ok (.iload_n 1, 1) := by decide +kernel
theorem d_Gr_orderNodes_29 : decode prog_1_method_27_code 29 = .ok (.aload_n 0, 1) := by decide +kernel
theorem d_Gr_orderNodes_30 : decode prog_1_method_27_code 30 = .ok (.getfield 35, 3) := by decide +kernel
theorem d_Gr_orderNodes_33 : decode prog_1_method_27_code 33 = .ok (.if_icmp .ge 38, 3) := by decide +kernel
theorem d_Gr_orderNodes_36 : decode prog_1_method_27_code 36 = .ok (.aload_n 0, 1) := by decide +kernel
theorem d_Gr_orderNodes_37 : decode prog_1_method_27_code 37 = .ok (.invokevirtual 196, 3) := by decide +kernel
theorem d_Gr_orderNodes_40 : decode prog_1_method_27_code 40 = .ok (.istore_n 2, 1) := by decide +kernel
theorem d_Gr_orderNodes_41 : decode prog_1_method_27_code 41 = .ok (.iload_n 2, 1) := by decide +kernel
theorem d_Gr_orderNodes_42 : decode prog_1_method_27_code 42 = .ok (.iconst (-1), 1) := by decide +kernel
theorem d_Gr_orderNodes_43 : decode prog_1_method_27_code 43 = .ok (.if_icmp .ne 5, 3) := by decide +kernel
theorem d_Gr_orderNodes_46 : decode prog_1_method_27_code 46 = .ok (.iconst 0, 1) := by decide +kernel
theorem d_Gr_orderNodes_47 : decode prog_1_method_27_code 47 = .ok (.ireturn, 1) := by decide +kernel
theorem d_Gr_orderNodes_48 : decode prog_1_method_27_code 48 = .ok (.aload_n 0, 1) := by decide +kernel
theorem d_Gr_orderNodes_49 : decode prog_1_method_27_code 49 = .ok (.getfield 21, 3) := by decide +kernel
theorem d_Gr_orderNodes_52 : decode prog_1_method_27_code 52 = .ok (.iload_n 1, 1) := by decide +kernel
theorem d_Gr_orderNodes_53 : decode prog_1_method_27_code 53 = .ok (.iload_n 2, 1) := by decide +kernel
theorem d_Gr_orderNodes_54 : decode prog_1_method_27_code 54 = .ok (.iastore, 1) := by decide +kernel
theorem d_Gr_orderNodes_55 : decode prog_1_method_27_code 55 = .ok (.aload_n 0, 1) := by decide +kernel
theorem d_Gr_orderNodes_56 : decode prog_1_method_27_code 56 = .ok (.getfield 17, 3) := by decide +kernel
theorem d_Gr_orderNodes_59 : decode prog_1_method_27_code 59 = .ok (.iload_n 2, 1) := by decide +kernel
theorem d_Gr_orderNodes_60 : decode prog_1_method_27_code 60 = .ok (.aaload, 1) := by decide +kernel
theorem d_Gr_orderNodes_61 : decode prog_1_method_27_code 61 = .ok (.iconst 1, 1) := by decide +kernel
theorem d_Gr_orderNodes_62 : decode prog_1_method_27_code 62 = .ok (.putfield 184, 3) := by decide +kernel
theorem d_Gr_orderNodes_65 : decode prog_1_method_27_code 65 = .ok (.iinc 1 1, 3) := by decide +kernel
theorem d_Gr_orderNodes_68 : decode prog_1_method_27_code 68 = .ok (.goto (-40), 3) := by decide +kernel
theorem d_Gr_orderNodes_71 : decode prog_1_method_27_code 71 = .ok (.iconst 1, 1) := by decide +kernel
theorem d_Gr_orderNodes_72 : decode prog_1_method_27_code 72 = .ok (.ireturn, 1) := by decide +kernel
theorem d_Gr_leastToOrder_0 : decode prog_1_method_28_code 0 = .ok (.iconst 0, 1) := by decide +kernel
theorem d_Gr_leastToOrder_1 : decode prog_1_method_28_code 1 = .ok (.istore_n 1, 1) := by decide +kernel
theorem d_Gr_leastToOrder_2 : decode prog_1_method_28_code 2 = .ok (.iload_n 1, 1) := by decide +kernel
theorem d_Gr_leastToOrder_3 : decode prog_1_method_28_code 3 = .ok (.aload_n 0, 1) := by decide +kernel
theorem d_Gr_leastToOrder_4 : decode prog_1_method_28_code 4 = .ok (.getfield 35, 3) := by decide +kernel
theorem d_Gr_leastToOrder_7 : decode prog_1_method_28_code 7 = .ok (.if_icmp .ge 36, 3) := by decide +kernel
theorem d_Gr_leastToOrder_10 : decode prog_1_method_28_code 10 = .ok (.aload_n 0, 1) := by decide +kernel
theorem d_Gr_leastToOrder_11 : decode prog_1_method_28_code 11 = .ok (.getfield 17, 3) := by decide +kernel
theorem d_Gr_leastToOrder_14 : decode prog_1_method_28_code 14 = .ok (.iload_n 1, 1) := by decide +kernel
theorem d_Gr_leastToOrder_15 : decode prog_1_method_28_code 15 = .ok (.aaload, 1) := by decide +kernel
theorem d_Gr_leastToOrder_16 : decode prog_1_method_28_code 16 = .ok (.getfield 184, 3) := by decide +kernel
theorem d_Gr_leastToOrder_19 : decode prog_1_method_28_code 19 = .ok (.ifCond .ne 18, 3) := by decide +kernel
theorem d_Gr_leastToOrder_22 : decode prog_1_method_28_code 22 = .ok (.aload_n 0, 1) := by decide +kernel
theorem d_Gr_leastToOrder_23 : decode prog_1_method_28_code 23 = .ok (.aload_n 0, 1) := by decide +kernel
theorem d_Gr_leastToOrder_24 : decode prog_1_method_28_code 24 = .ok (.getfield 17, 3) := by decide +kernel
theorem d_Gr_leastToOrder_27 : decode prog_1_method_28_code 27 = .ok (.iload_n 1, 1) := by decide +kernel
theorem d_Gr_leastToOrder_28 : decode prog_1_method_28_code 28 = .ok (.aaload, 1) := by decide +kernel
theorem d_Gr_leastToOrder_29 : decode prog_1_method_28_code 29 = .ok (.invokevirtual 199, 3) := by decide +kernel
theorem d_Gr_leastToOrder_32 : decode prog_1_method_28_code 32 = .ok (.ifCond .eq 5, 3) := by decide +kernel
theorem d_Gr_leastToOrder_35 : decode prog_1_method_28_code 35 = .ok (.iload_n 1, 1) := by decide +kernel
theorem d_Gr_leastToOrder_36 : decode prog_1_method_28_code 36 = .ok (.ireturn, 1) := by decide +kernel
theorem d_Gr_leastToOrder_37 : decode prog_1_method_28_code 37 = .ok (.iinc 1 1, 3) := by decide +kernel
theorem d_Gr_leastToOrder_40 : decode prog_1_method_28_code 40 = .ok (.goto (-38), 3) := by decide +kernel
theorem d_Gr_leastToOrder_43 : decode prog_1_method_28_code 43 = .ok (.iconst (-1), 1) := by decide +kernel
theorem d_Gr_leastToOrder_44 : decode prog_1_method_28_code 44 = .ok (.ireturn, 1) := by decide +kernel
theorem d_Gr_argumentsAreOrdered_0 : decode prog_1_method_29_code 0 = .ok (.iconst 0, 1) := by decide +kernel
theorem d_Gr_argumentsAreOrdered_1 : decode prog_1_method_29_code 1 = .ok (.istore_n 2, 1) := by decide +kernel
theorem d_Gr_argumentsAreOrdered_2 : decode prog_1_method_29_code 2 = .ok (.iload_n 2, 1) := by decide +kernel
theorem d_Gr_argumentsAreOrdered_3 : decode prog_1_method_29_code 3 = .ok (.aload_n 1, 1) := by decide +kernel
theorem d_Gr_argumentsAreOrdered_4 : decode prog_1_method_29_code 4 = .ok (.getfield 203, 3) := by decide +kernel
theorem d_Gr_argumentsAreOrdered_7 : decode prog_1_method_29_code 7 = .ok (.if_icmp .ge 24, 3) := by decide +kernel
theorem d_Gr_argumentsAreOrdered_10 : decode prog_1_method_29_code 10 = .ok (.aload_n 0, 1) := by decide +kernel
theorem d_Gr_argumentsAreOrdered_11 : decode prog_1_method_29_code 11 = .ok (.aload_n 1, 1) := by decide +kernel
theorem d_Gr_argumentsAreOrdered_12 : decode prog_1_method_29_code 12 = .ok (.getfield 206, 3) := by decide +kernel
theorem d_Gr_argumentsAreOrdered_15 : decode prog_1_method_29_code 15 = .ok (.iload_n 2, 1) := by decide +kernel
theorem d_Gr_argumentsAreOrdered_16 : decode prog_1_method_29_code 16 = .ok (.iaload, 1) := by decide +kernel
theorem d_Gr_argumentsAreOrdered_17 : decode prog_1_method_29_code 17 = .ok (.invokevirtual 209, 3) := by decide +kernel
theorem d_Gr_argumentsAreOrdered_20 : decode prog_1_method_29_code 20 = .ok (.ifCond .ne 5, 3) := by decide +kernel
theorem d_Gr_argumentsAreOrdered_23 : decode prog_1_method_29_code 23 = .ok (.iconst 0, 1) := by decide +kernel
theorem d_Gr_argumentsAreOrdered_24 : decode prog_1_method_29_code 24 = .ok (.ireturn, 1) := by decide +kernel
theorem d_Gr_argumentsAreOrdered_25 : decode prog_1_method_29_code 25 = .ok (.iinc 2 1, 3) := by decide +kernel
theorem d_Gr_argumentsAreOrdered_28 : decode prog_1_method_29_code 28 = .ok (.goto (-26), 3) := by decide +kernel
theorem d_Gr_argumentsAreOrdered_31 : decode prog_1_method_29_code 31 = .ok (.iconst 1, 1) := by decide +kernel
theorem d_Gr_argumentsAreOrdered_32 : decode prog_1_method_29_code 32 = .ok (.ireturn, 1) := by decide +kernel
theorem d_Gr_isOrdered_0 : decode prog_1_method_20_code 0 = .ok (.aload_n 0, 1) := by decide +kernel
theorem d_Gr_isOrdered_1 : decode prog_1_method_20_code 1 = .ok (.iload_n 1, 1) := by decide +kernel
theorem d_Gr_isOrdered_2 : decode prog_1_method_20_code 2 = .ok (.invokevirtual 83, 3) := by decide +kernel
theorem d_Gr_isOrdered_5 : decode prog_1_method_20_code 5 = .ok (.ifCond .ne 36, 3) := by decide +kernel
theorem d_Gr_isOrdered_8 : decode prog_1_method_20_code 8 = .ok (.aload_n 0, 1) := by decide +kernel
theorem d_Gr_isOrdered_9 : decode prog_1_method_20_code 9 = .ok (.getfield 11, 3) := by decide +kernel
theorem d_Gr_isOrdered_12 : decode prog_1_method_20_code 12 = .ok (.iload_n 1, 1) := by decide +kernel
theorem d_Gr_isOrdered_13 : decode prog_1_method_20_code 13 = .ok (.aaload, 1) := by decide +kernel
theorem d_Gr_isOrdered_14 : decode prog_1_method_20_code 14 = .ok (.getfield 64, 3) := by decide +kernel
theorem d_Gr_isOrdered_17 : decode prog_1_method_20_code 17 = .ok (.iconst 3, 1) := by decide +kernel
theorem d_Gr_isOrdered_18 : decode prog_1_method_20_code 18 = .ok (.if_icmp .ne 27, 3) := by decide +kernel
theorem d_Gr_isOrdered_21 : decode prog_1_method_20_code 21 = .ok (.aload_n 0, 1) := by decide +kernel
theorem d_Gr_isOrdered_22 : decode prog_1_method_20_code 22 = .ok (.getfield 17, 3) := by decide +kernel
theorem d_Gr_isOrdered_25 : decode prog_1_method_20_code 25 = .ok (.aload_n 0, 1) := by decide +kernel
theorem d_Gr_isOrdered_26 : decode prog_1_method_20_code 26 = .ok (.getfield 11, 3) := by decide +kernel
theorem d_Gr_isOrdered_29 : decode prog_1_method_20_code 29 = .ok (.iload_n 1, 1) := by decide +kernel
theorem d_Gr_isOrdered_30 : decode prog_1_method_20_code 30 = .ok (.aaload, 1) := by decide +kernel
theorem d_Gr_isOrdered_31 : decode prog_1_method_20_code 31 = .ok (.getfield 125, 3) := by decide +kernel
theorem d_Gr_isOrdered_34 : decode prog_1_method_20_code 34 = .ok (.aaload, 1) := by decide +kernel
theorem d_Gr_isOrdered_35 : decode prog_1_method_20_code 35 = .ok (.getfield 184, 3) := by decide +kernel
theorem d_Gr_isOrdered_38 : decode prog_1_method_20_code 38 = .ok (.ifCond .eq 7, 3) := by decide +kernel
theorem d_Gr_isOrdered_41 : decode prog_1_method_20_code 41 = .ok (.iconst 1, 1) := by decide +kernel
theorem d_Gr_isOrdered_42 : decode prog_1_method_20_code 42 = .ok (.goto 4, 3) := by decide +kernel
theorem d_Gr_isOrdered_45 : decode prog_1_method_20_code 45 = .ok (.iconst 0, 1) := by decide +kernel
theorem d_Gr_isOrdered_46 : decode prog_1_method_20_code 46 = .ok (.ireturn, 1) := by decide +kernel
theorem d_Gr_findShapes_0 : decode prog_1_method_30_code 0 = .ok (.iconst 0, 1) := by decide +kernel
theorem d_Gr_findShapes_1 : decode prog_1_method_30_code 1 = .ok (.istore_n 1, 1) := by decide +kernel
theorem d_Gr_findShapes_2 : decode prog_1_method_30_code 2 = .ok (.iload_n 1, 1) := by decide +kernel
theorem d_Gr_findShapes_3 : decode prog_1_method_30_code 3 = .ok (.aload_n 0, 1) := by decide +kernel
theorem d_Gr_findShapes_4 : decode prog_1_method_30_code 4 = .ok (.getfield 35, 3) := by decide +kernel
theorem d_Gr_findShapes_7 : decode prog_1_method_30_code 7 = .ok (.if_icmp .ge 62, 3) := by decide +kernel
theorem d_Gr_findShapes_10 : decode prog_1_method_30_code 10 = .ok (.aload_n 0, 1) := by decide +kernel
theorem d_Gr_findShapes_11 : decode prog_1_method_30_code 11 = .ok (.getfield 17, 3) := by decide +kernel
theorem d_Gr_findShapes_14 : decode prog_1_method_30_code 14 = .ok (.aload_n 0, 1) := by decide +kernel
theorem d_Gr_findShapes_15 : decode prog_1_method_30_code 15 = .ok (.getfield 21, 3) := by decide +kernel
theorem d_Gr_findShapes_18 : decode prog_1_method_30_code 18 = .ok (.iload_n 1, 1) := by decide +kernel
theorem d_Gr_findShapes_19 : decode prog_1_method_30_code 19 = .ok (.iaload, 1) := by decide +kernel
theorem d_Gr_findShapes_20 : decode prog_1_method_30_code 20 = .ok (.aaload, 1) := by decide +kernel
theorem d_Gr_findShapes_21 : decode prog_1_method_30_code 21 = .ok (.astore_n 2, 1) := by decide +kernel
theorem d_Gr_findShapes_22 : decode prog_1_method_30_code 22 = .ok (.aload_n 0, 1) := by decide +kernel
theorem d_Gr_findShapes_23 : decode prog_1_method_30_code 23 = .ok (.getfield 11, 3) := by decide +kernel
theorem d_Gr_findShapes_26 : decode prog_1_method_30_code 26 = .ok (.aload_n 2, 1) := by decide +kernel
theorem d_Gr_findShapes_27 : decode prog_1_method_30_code 27 = .ok (.getfield 131, 3) := by decide +kernel
theorem d_Gr_findShapes_30 : decode prog_1_method_30_code 30 = .ok (.aaload, 1) := by decide +kernel
theorem d_Gr_findShapes_31 : decode prog_1_method_30_code 31 = .ok (.getfield 67, 3) := by decide +kernel
theorem d_Gr_findShapes_34 : decode prog_1_method_30_code 34 = .ok (.astore_n 3, 1) := by decide +kernel
theorem d_Gr_findShapes_35 : decode prog_1_method_30_code 35 = .ok (.aload_n 2, 1) := by decide +kernel
theorem d_Gr_findShapes_36 : decode prog_1_method_30_code 36 = .ok (.aload_n 0, 1) := by decide +kernel
theorem d_Gr_findShapes_37 : decode prog_1_method_30_code 37 = .ok (.aload_n 2, 1) := by decide +kernel
theorem d_Gr_findShapes_38 : decode prog_1_method_30_code 38 = .ok (.iconst 0, 1) := by decide +kernel
theorem d_Gr_findShapes_39 : decode prog_1_method_30_code 39 = .ok (.invokevirtual 212, 3) := by decide +kernel
theorem d_Gr_findShapes_42 : decode prog_1_method_30_code 42 = .ok (.aload_n 0, 1) := by decide +kernel
theorem d_Gr_findShapes_43 : decode prog_1_method_30_code 43 = .ok (.aload_n 2, 1) := by decide +kernel
theorem d_Gr_findShapes_44 : decode prog_1_method_30_code 44 = .ok (.iconst 1, 1) := by decide +kernel
theorem d_Gr_findShapes_45 : decode prog_1_method_30_code 45 = .ok (.invokevirtual 212, 3) := by decide +kernel
theorem d_Gr_findShapes_48 : decode prog_1_method_30_code 48 = .ok (.aload_n 0, 1) := by decide +kernel
theorem d_Gr_findShapes_49 : decode prog_1_method_30_code 49 = .ok (.aload_n 2, 1) := by decide +kernel
theorem d_Gr_findShapes_50 : decode prog_1_method_30_code 50 = .ok (.iconst 2, 1) := by decide +kernel
theorem d_Gr_findShapes_51 : decode prog_1_method_30_code 51 = .ok (.invokevirtual 212, 3) := by decide +kernel
theorem d_Gr_findShapes_54 : decode prog_1_method_30_code 54 = .ok (.aload_n 3, 1) := by decide +kernel
theorem d_Gr_findShapes_55 : decode prog_1_method_30_code 55 = .ok (.invokestatic 216, 3) := by decide +kernel
theorem d_Gr_findShapes_58 : decode prog_1_method_30_code 58 = .ok (.ifCond .ne 5, 3) := by decide +kernel
theorem d_Gr_findShapes_61 : decode prog_1_method_30_code 61 = .ok (.iconst 0, 1) := by decide +kernel
theorem d_Gr_findShapes_62 : decode prog_1_method_30_code 62 = .ok (.ireturn, 1) := by decide +kernel
theorem d_Gr_findShapes_63 : decode prog_1_method_30_code 63 = .ok (.iinc 1 1, 3) := by decide +kernel
theorem d_Gr_findShapes_66 : decode prog_1_method_30_code 66 = .ok (.goto (-64), 3) := by decide +kernel
theorem d_Gr_findShapes_69 : decode prog_1_method_30_code 69 = .ok (.iconst 1, 1) := by decide +kernel
theorem d_Gr_findShapes_70 : decode prog_1_method_30_code 70 = .ok (.ireturn, 1) := by decide +kernel
theorem d_Gr_argument_0 : decode prog_1_method_33_code 0 = .ok (.iload_n 2, 1) := by decide +kernel
theorem d_Gr_argument_1 : decode prog_1_method_33_code 1 = .ok (.aload_n 1, 1) := by decide +kernel
theorem d_Gr_argument_2 : decode prog_1_method_33_code 2 = .ok (.getfield 203, 3) := by decide +kernel
theorem d_Gr_argument_5 : decode prog_1_method_33_code 5 = .ok (.if_icmp .ge 20, 3) := by decide +kernel
theorem d_Gr_argument_8 : decode prog_1_method_33_code 8 = .ok (.aload_n 0, 1) := by decide +kernel
theorem d_Gr_argument_9 : decode prog_1_method_33_code 9 = .ok (.getfield 11, 3) := by decide +kernel
theorem d_Gr_argument_12 : decode prog_1_method_33_code 12 = .ok (.aload_n 1, 1) := by decide +kernel
theorem d_Gr_argument_13 : decode prog_1_method_33_code 13 = .ok (.getfield 206, 3) := by decide +kernel
theorem d_Gr_argument_16 : decode prog_1_method_33_code 16 = .ok (.iload_n 2, 1) := by decide +kernel
theorem d_Gr_argument_17 : decode prog_1_method_33_code 17 = .ok (.iaload, 1) := by decide +kernel
theorem d_Gr_argument_18 : decode prog_1_method_33_code 18 = .ok (.aaload, 1) := by decide +kernel
theorem d_Gr_argument_19 : decode prog_1_method_33_code 19 = .ok (.getfield 67, 3) := by decide +kernel
theorem d_Gr_argument_22 : decode prog_1_method_33_code 22 = .ok (.goto 7, 3) := by decide +kernel
theorem d_Gr_argument_25 : decode prog_1_method_33_code 25 = .ok (.aload_n 0, 1) := by decide +kernel
theorem d_Gr_argument_26 : decode prog_1_method_33_code 26 = .ok (.getfield 31, 3) := by decide +kernel
theorem d_Gr_argument_29 : decode prog_1_method_33_code 29 = .ok (.areturn, 1) := by decide +kernel
theorem d_Gr_foldNodes_0 : decode prog_1_method_31_code 0 = .ok (.iconst 0, 1) := by decide +kernel
theorem d_Gr_foldNodes_1 : decode prog_1_method_31_code 1 = .ok (.istore_n 1, 1) := by decide +kernel
theorem d_Gr_foldNodes_2 : decode prog_1_method_31_code 2 = .ok (.iload_n 1, 1) := by decide +kernel
theorem d_Gr_foldNodes_3 : decode prog_1_method_31_code 3 = .ok (.aload_n 0, 1) := by decide +kernel
theorem d_Gr_foldNodes_4 : decode prog_1_method_31_code 4 = .ok (.getfield 35, 3) := by decide +kernel
theorem d_Gr_foldNodes_7 : decode prog_1_method_31_code 7 = .ok (.if_icmp .ge 46, 3) := by decide +kernel
theorem d_Gr_foldNodes_10 : decode prog_1_method_31_code 10 = .ok (.aload_n 0, 1) := by decide +kernel
theorem d_Gr_foldNodes_11 : decode prog_1_method_31_code 11 = .ok (.getfield 17, 3) := by decide +kernel
theorem d_Gr_foldNodes_14 : decode prog_1_method_31_code 14 = .ok (.aload_n 0, 1) := by decide +kernel
theorem d_Gr_foldNodes_15 : decode prog_1_method_31_code 15 = .ok (.getfield 21, 3) := by decide +kernel
theorem d_Gr_foldNodes_18 : decode prog_1_method_31_code 18 = .ok (.iload_n 1, 1) := by decide +kernel
theorem d_Gr_foldNodes_19 : decode prog_1_method_31_code 19 = .ok (.iaload, 1) := by decide +kernel
theorem d_Gr_foldNodes_20 : decode prog_1_method_31_code 20 = .ok (.aaload, 1) := by decide +kernel
theorem d_Gr_foldNodes_21 : decode prog_1_method_31_code 21 = .ok (.astore_n 2, 1) := by decide +kernel
theorem d_Gr_foldNodes_22 : decode prog_1_method_31_code 22 = .ok (.aload_n 2, 1) := by decide +kernel
theorem d_Gr_foldNodes_23 : decode prog_1_method_31_code 23 = .ok (.aload_n 0, 1) := by decide +kernel
theorem d_Gr_foldNodes_24 : decode prog_1_method_31_code 24 = .ok (.aload_n 2, 1) := by decide +kernel
theorem d_Gr_foldNodes_25 : decode prog_1_method_31_code 25 = .ok (.invokevirtual 222, 3) := by decide +kernel
theorem d_Gr_foldNodes_28 : decode prog_1_method_31_code 28 = .ok (.ifCond .eq 15, 3) := by decide +kernel
theorem d_Gr_foldNodes_31 : decode prog_1_method_31_code 31 = .ok (.aload_n 0, 1) := by decide +kernel
theorem d_Gr_foldNodes_32 : decode prog_1_method_31_code 32 = .ok (.aload_n 2, 1) := by decide +kernel
theorem d_Gr_foldNodes_33 : decode prog_1_method_31_code 33 = .ok (.invokevirtual 225, 3) := by decide +kernel
theorem d_Gr_foldNodes_36 : decode prog_1_method_31_code 36 = .ok (.ifCond .ne 7, 3) := by decide +kernel
theorem d_Gr_foldNodes_39 : decode prog_1_method_31_code 39 = .ok (.iconst 1, 1) := by decide +kernel
theorem d_Gr_foldNodes_40 : decode prog_1_method_31_code 40 = .ok (.goto 4, 3) := by decide +kernel
theorem d_Gr_foldNodes_43 : decode prog_1_method_31_code 43 = .ok (.iconst 0, 1) := by decide +kernel
theorem d_Gr_foldNodes_44 : decode prog_1_method_31_code 44 = .ok (.putfield 187, 3) := by decide +kernel
