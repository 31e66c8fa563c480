theorem d_Wk_workEach_40 : decode prog_6_method_9_code 40 = .ok (.iinc 4 1, 3) := by decide +kernel
theorem d_Wk_workEach_43 : decode prog_6_method_9_code 43 = .ok (.goto (-30), 3) := by decide +kernel
theorem d_Wk_workEach_46 : decode prog_6_method_9_code 46 = .ok (.iinc 3 1, 3) := by decide +kernel
theorem d_Wk_workEach_49 : decode prog_6_method_9_code 49 = .ok (.goto (-47), 3) := by decide +kernel
theorem d_Wk_workEach_52 : decode prog_6_method_9_code 52 = .ok (.return_, 1) := by decide +kernel
theorem d_Wk_ofOne_0 : decode prog_6_method_10_code 0 = .ok (.aload_n 0, 1) := by decide +kernel
theorem d_Wk_ofOne_1 : decode prog_6_method_10_code 1 = .ok (.getfield 9, 3) := by decide +kernel
theorem d_Wk_ofOne_4 : decode prog_6_method_10_code 4 = .ok (.lookupswitch 56 #[(5, 28), (7, 40)], 28) := by decide +kernel
theorem d_Wk_ofOne_32 : decode prog_6_method_10_code 32 = .ok (.dload_n 1, 1) := by decide +kernel
theorem d_Wk_ofOne_33 : decode prog_6_method_10_code 33 = .ok (.dconst 0, 1) := by decide +kernel
theorem d_Wk_ofOne_34 : decode prog_6_method_10_code 34 = .ok (.dcmp .l, 1) := by decide +kernel
theorem d_Wk_ofOne_35 : decode prog_6_method_10_code 35 = .ok (.ifCond .le 7, 3) := by decide +kernel
theorem d_Wk_ofOne_38 : decode prog_6_method_10_code 38 = .ok (.dload_n 1, 1) := by decide +kernel
theorem d_Wk_ofOne_39 : decode prog_6_method_10_code 39 = .ok (.goto 4, 3) := by decide +kernel
theorem d_Wk_ofOne_42 : decode prog_6_method_10_code 42 = .ok (.dconst 0, 1) := by decide +kernel
theorem d_Wk_ofOne_43 : decode prog_6_method_10_code 43 = .ok (.dreturn, 1) := by decide +kernel
theorem d_Wk_ofOne_44 : decode prog_6_method_10_code 44 = .ok (.aload_n 0, 1) := by decide +kernel
theorem d_Wk_ofOne_45 : decode prog_6_method_10_code 45 = .ok (.getfield 36, 3) := by decide +kernel
theorem d_Wk_ofOne_48 : decode prog_6_method_10_code 48 = .ok (.iconst 1, 1) := by decide +kernel
theorem d_Wk_ofOne_49 : decode prog_6_method_10_code 49 = .ok (.if_icmp .ne 9, 3) := by decide +kernel
theorem d_Wk_ofOne_52 : decode prog_6_method_10_code 52 = .ok (.dload_n 1, 1) := by decide +kernel
theorem d_Wk_ofOne_53 : decode prog_6_method_10_code 53 = .ok (.d2i, 1) := by decide +kernel
theorem d_Wk_ofOne_54 : decode prog_6_method_10_code 54 = .ok (.i2d, 1) := by decide +kernel
theorem d_Wk_ofOne_55 : decode prog_6_method_10_code 55 = .ok (.goto 4, 3) := by decide +kernel
theorem d_Wk_ofOne_58 : decode prog_6_method_10_code 58 = .ok (.dload_n 1, 1) := by decide +kernel
theorem d_Wk_ofOne_59 : decode prog_6_method_10_code 59 = .ok (.dreturn, 1) := by decide +kernel
theorem d_Wk_ofOne_60 : decode prog_6_method_10_code 60 = .ok (.dload_n 1, 1) := by decide +kernel
theorem d_Wk_ofOne_61 : decode prog_6_method_10_code 61 = .ok (.aload_n 0, 1) := by decide +kernel
theorem d_Wk_ofOne_62 : decode prog_6_method_10_code 62 = .ok (.getfield 36, 3) := by decide +kernel
theorem d_Wk_ofOne_65 : decode prog_6_method_10_code 65 = .ok (.i2d, 1) := by decide +kernel
theorem d_Wk_ofOne_66 : decode prog_6_method_10_code 66 = .ok (.dcmp .g, 1) := by decide +kernel
theorem d_Wk_ofOne_67 : decode prog_6_method_10_code 67 = .ok (.ifCond .ge 11, 3) := by decide +kernel
theorem d_Wk_ofOne_70 : decode prog_6_method_10_code 70 = .ok (.aload_n 0, 1) := by decide +kernel
theorem d_Wk_ofOne_71 : decode prog_6_method_10_code 71 = .ok (.getfield 36, 3) := by decide +kernel
theorem d_Wk_ofOne_74 : decode prog_6_method_10_code 74 = .ok (.i2d, 1) := by decide +kernel
theorem d_Wk_ofOne_75 : decode prog_6_method_10_code 75 = .ok (.goto 22, 3) := by decide +kernel
theorem d_Wk_ofOne_78 : decode prog_6_method_10_code 78 = .ok (.dload_n 1, 1) := by decide +kernel
theorem d_Wk_ofOne_79 : decode prog_6_method_10_code 79 = .ok (.aload_n 0, 1) := by decide +kernel
theorem d_Wk_ofOne_80 : decode prog_6_method_10_code 80 = .ok (.getfield 110, 3) := by decide +kernel
theorem d_Wk_ofOne_83 : decode prog_6_method_10_code 83 = .ok (.i2d, 1) := by decide +kernel
theorem d_Wk_ofOne_84 : decode prog_6_method_10_code 84 = .ok (.dcmp .l, 1) := by decide +kernel
theorem d_Wk_ofOne_85 : decode prog_6_method_10_code 85 = .ok (.ifCond .le 11, 3) := by decide +kernel
theorem d_Wk_ofOne_88 : decode prog_6_method_10_code 88 = .ok (.aload_n 0, 1) := by decide +kernel
theorem d_Wk_ofOne_89 : decode prog_6_method_10_code 89 = .ok (.getfield 110, 3) := by decide +kernel
theorem d_Wk_ofOne_92 : decode prog_6_method_10_code 92 = .ok (.i2d, 1) := by decide +kernel
theorem d_Wk_ofOne_93 : decode prog_6_method_10_code 93 = .ok (.goto 4, 3) := by decide +kernel
theorem d_Wk_ofOne_96 : decode prog_6_method_10_code 96 = .ok (.dload_n 1, 1) := by decide +kernel
theorem d_Wk_ofOne_97 : decode prog_6_method_10_code 97 = .ok (.dreturn, 1) := by decide +kernel
theorem d_Wk_pair_0 : decode prog_6_method_3_code 0 = .ok (.iconst 0, 1) := by decide +kernel
theorem d_Wk_pair_1 : decode prog_6_method_3_code 1 = .ok (.istore 4, 2) := by decide +kernel
theorem d_Wk_pair_3 : decode prog_6_method_3_code 3 = .ok (.iload 4, 2) := by decide +kernel
theorem d_Wk_pair_5 : decode prog_6_method_3_code 5 = .ok (.aload_n 3, 1) := by decide +kernel
theorem d_Wk_pair_6 : decode prog_6_method_3_code 6 = .ok (.getfield 53, 3) := by decide +kernel
theorem d_Wk_pair_9 : decode prog_6_method_3_code 9 = .ok (.if_icmp .ge 85, 3) := by decide +kernel
theorem d_Wk_pair_12 : decode prog_6_method_3_code 12 = .ok (.iconst 0, 1) := by decide +kernel
theorem d_Wk_pair_13 : decode prog_6_method_3_code 13 = .ok (.istore 5, 2) := by decide +kernel
theorem d_Wk_pair_15 : decode prog_6_method_3_code 15 = .ok (.iload 5, 2) := by decide +kernel
theorem d_Wk_pair_17 : decode prog_6_method_3_code 17 = .ok (.aload_n 3, 1) := by decide +kernel
theorem d_Wk_pair_18 : decode prog_6_method_3_code 18 = .ok (.getfield 58, 3) := by decide +kernel
theorem d_Wk_pair_21 : decode prog_6_method_3_code 21 = .ok (.if_icmp .ge 67, 3) := by decide +kernel
theorem d_Wk_pair_24 : decode prog_6_method_3_code 24 = .ok (.aload_n 1, 1) := by decide +kernel
theorem d_Wk_pair_25 : decode prog_6_method_3_code 25 = .ok (.iload 4, 2) := by decide +kernel
theorem d_Wk_pair_27 : decode prog_6_method_3_code 27 = .ok (.iload 5, 2) := by decide +kernel
theorem d_Wk_pair_29 : decode prog_6_method_3_code 29 = .ok (.invokevirtual 80, 3) := by decide +kernel
theorem d_Wk_pair_32 : decode prog_6_method_3_code 32 = .ok (.dstore 6, 2) := by decide +kernel
theorem d_Wk_pair_34 : decode prog_6_method_3_code 34 = .ok (.aload_n 2, 1) := by decide +kernel
theorem d_Wk_pair_35 : decode prog_6_method_3_code 35 = .ok (.iload 4, 2) := by decide +kernel
theorem d_Wk_pair_37 : decode prog_6_method_3_code 37 = .ok (.iload 5, 2) := by decide +kernel
theorem d_Wk_pair_39 : decode prog_6_method_3_code 39 = .ok (.invokevirtual 80, 3) := by decide +kernel
theorem d_Wk_pair_42 : decode prog_6_method_3_code 42 = .ok (.dstore 8, 2) := by decide +kernel
theorem d_Wk_pair_44 : decode prog_6_method_3_code 44 = .ok (.aload_n 3, 1) := by decide +kernel
theorem d_Wk_pair_45 : decode prog_6_method_3_code 45 = .ok (.iload 4, 2) := by decide +kernel
theorem d_Wk_pair_47 : decode prog_6_method_3_code 47 = .ok (.iload 5, 2) := by decide +kernel
theorem d_Wk_pair_49 : decode prog_6_method_3_code 49 = .ok (.aload_n 1, 1) := by decide +kernel
theorem d_Wk_pair_50 : decode prog_6_method_3_code 50 = .ok (.getfield 84, 3) := by decide +kernel
theorem d_Wk_pair_53 : decode prog_6_method_3_code 53 = .ok (.iconst 1, 1) := by decide +kernel
theorem d_Wk_pair_54 : decode prog_6_method_3_code 54 = .ok (.if_icmp .ne 17, 3) := by decide +kernel
theorem d_Wk_pair_57 : decode prog_6_method_3_code 57 = .ok (.iload_n 0, 1) := by decide +kernel
theorem d_Wk_pair_58 : decode prog_6_method_3_code 58 = .ok (.dload 6, 2) := by decide +kernel
theorem d_Wk_pair_60 : decode prog_6_method_3_code 60 = .ok (.d2i, 1) := by decide +kernel
theorem d_Wk_pair_61 : decode prog_6_method_3_code 61 = .ok (.dload 8, 2) := by decide +kernel
theorem d_Wk_pair_63 : decode prog_6_method_3_code 63 = .ok (.d2i, 1) := by decide +kernel
theorem d_Wk_pair_64 : decode prog_6_method_3_code 64 = .ok (.invokestatic 87, 3) := by decide +kernel
theorem d_Wk_pair_67 : decode prog_6_method_3_code 67 = .ok (.i2d, 1) := by decide +kernel
theorem d_Wk_pair_68 : decode prog_6_method_3_code 68 = .ok (.goto 11, 3) := by decide +kernel
theorem d_Wk_pair_71 : decode prog_6_method_3_code 71 = .ok (.iload_n 0, 1) := by decide +kernel
theorem d_Wk_pair_72 : decode prog_6_method_3_code 72 = .ok (.dload 6, 2) := by decide +kernel
theorem d_Wk_pair_74 : decode prog_6_method_3_code 74 = .ok (.dload 8, 2) := by decide +kernel
theorem d_Wk_pair_76 : decode prog_6_method_3_code 76 = .ok (.invokestatic 91, 3) := by decide +kernel
theorem d_Wk_pair_79 : decode prog_6_method_3_code 79 = .ok (.invokevirtual 95, 3) := by decide +kernel
theorem d_Wk_pair_82 : decode prog_6_method_3_code 82 = .ok (.iinc 5 1, 3) := by decide +kernel
theorem d_Wk_pair_85 : decode prog_6_method_3_code 85 = .ok (.goto (-70), 3) := by decide +kernel
theorem d_Wk_pair_88 : decode prog_6_method_3_code 88 = .ok (.iinc 4 1, 3) := by decide +kernel
theorem d_Wk_pair_91 : decode prog_6_method_3_code 91 = .ok (.goto (-88), 3) := by decide +kernel
theorem d_Wk_pair_94 : decode prog_6_method_3_code 94 = .ok (.return_, 1) := by decide +kernel
theorem d_Wk_pairFloats_0 : decode prog_6_method_5_code 0 = .ok (.iload_n 0, 1) := by decide +kernel
theorem d_Wk_pairFloats_1 : decode prog_6_method_5_code 1 = .ok (.tableswitch 39 0 2 #[27, 31, 35], 27) := by decide +kernel
theorem d_Wk_pairFloats_28 : decode prog_6_method_5_code 28 = .ok (.dload_n 1, 1) := by decide +kernel
theorem d_Wk_pairFloats_29 : decode prog_6_method_5_code 29 = .ok (.dload_n 3, 1) := by decide +kernel
theorem d_Wk_pairFloats_30 : decode prog_6_method_5_code 30 = .ok (.dadd, 1) := by decide +kernel
theorem d_Wk_pairFloats_31 : decode prog_6_method_5_code 31 = .ok (.dreturn, 1) := by decide +kernel
theorem d_Wk_pairFloats_32 : decode prog_6_method_5_code 32 = .ok (.dload_n 1, 1) := by decide +kernel
theorem d_Wk_pairFloats_33 : decode prog_6_method_5_code 33 = .ok (.dload_n 3, 1) := by decide +kernel
theorem d_Wk_pairFloats_34 : decode prog_6_method_5_code 34 = .ok (.dsub, 1) := by decide +kernel
theorem d_Wk_pairFloats_35 : decode prog_6_method_5_code 35 = .ok (.dreturn, 1) := by decide +kernel
theorem d_Wk_pairFloats_36 : decode prog_6_method_5_code 36 = .ok (.dload_n 1, 1) := by decide +kernel
theorem d_Wk_pairFloats_37 : decode prog_6_method_5_code 37 = .ok (.dload_n 3, 1) := by decide +kernel
theorem d_Wk_pairFloats_38 : decode prog_6_method_5_code 38 = .ok (.dmul, 1) := by decide +kernel
theorem d_Wk_pairFloats_39 : decode prog_6_method_5_code 39 = .ok (.dreturn, 1) := by decide +kernel
theorem d_Wk_pairFloats_40 : decode prog_6_method_5_code 40 = .ok (.dload_n 1, 1) := by decide +kernel
theorem d_Wk_pairFloats_41 : decode prog_6_method_5_code 41 = .ok (.dload_n 3, 1) := by decide +kernel
theorem d_Wk_pairFloats_42 : decode prog_6_method_5_code 42 = .ok (.dcmp .g, 1) := by decide +kernel
theorem d_Wk_pairFloats_43 : decode prog_6_method_5_code 43 = .ok (.ifCond .ge 7, 3) := by decide +kernel
theorem d_Wk_pairFloats_46 : decode prog_6_method_5_code 46 = .ok (.dconst 1, 1) := by decide +kernel
theorem d_Wk_pairFloats_47 : decode prog_6_method_5_code 47 = .ok (.goto 4, 3) := by decide +kernel
theorem d_Wk_pairFloats_50 : decode prog_6_method_5_code 50 = .ok (.dconst 0, 1) := by decide +kernel
theorem d_Wk_pairFloats_51 : decode prog_6_method_5_code 51 = .ok (.dreturn, 1) := by decide +kernel
theorem d_Mo_init_0 : decode prog_8_method_1_code 0 = .ok (.aload_n 0, 1) := by decide +kernel
theorem d_Mo_init_1 : decode prog_8_method_1_code 1 = .ok (.invokespecial 1, 3) := by decide +kernel
theorem d_Mo_init_4 : decode prog_8_method_1_code 4 = .ok (.aload_n 0, 1) := by decide +kernel
theorem d_Mo_init_5 : decode prog_8_method_1_code 5 = .ok (.bipush 20, 2) := by decide +kernel
theorem d_Mo_init_7 : decode prog_8_method_1_code 7 = .ok (.newarray .int, 2) := by decide +kernel
theorem d_Mo_init_9 : decode prog_8_method_1_code 9 = .ok (.putfield 7, 3) := by decide +kernel
theorem d_Mo_init_12 : decode prog_8_method_1_code 12 = .ok (.aload_n 0, 1) := by decide +kernel
theorem d_Mo_init_13 : decode prog_8_method_1_code 13 = .ok (.bipush 20, 2) := by decide +kernel
theorem d_Mo_init_15 : decode prog_8_method_1_code 15 = .ok (.newarray .int, 2) := by decide +kernel
theorem d_Mo_init_17 : decode prog_8_method_1_code 17 = .ok (.putfield 13, 3) := by decide +kernel
theorem d_Mo_init_20 : decode prog_8_method_1_code 20 = .ok (.aload_n 0, 1) := by decide +kernel
theorem d_Mo_init_21 : decode prog_8_method_1_code 21 = .ok (.bipush 20, 2) := by decide +kernel
theorem d_Mo_init_23 : decode prog_8_method_1_code 23 = .ok (.newarray .int, 2) := by decide +kernel
theorem d_Mo_init_25 : decode prog_8_method_1_code 25 = .ok (.putfield 16, 3) := by decide +kernel
theorem d_Mo_init_28 : decode prog_8_method_1_code 28 = .ok (.aload_n 0, 1) := by decide +kernel
theorem d_Mo_init_29 : decode prog_8_method_1_code 29 = .ok (.bipush 20, 2) := by decide +kernel
theorem d_Mo_init_31 : decode prog_8_method_1_code 31 = .ok (.newarray .int, 2) := by decide +kernel
theorem d_Mo_init_33 : decode prog_8_method_1_code 33 = .ok (.putfield 19, 3) := by decide +kernel
theorem d_Mo_init_36 : decode prog_8_method_1_code 36 = .ok (.aload_n 0, 1) := by decide +kernel
theorem d_Mo_init_37 : decode prog_8_method_1_code 37 = .ok (.bipush 20, 2) := by decide +kernel
theorem d_Mo_init_39 : decode prog_8_method_1_code 39 = .ok (.newarray .int, 2) := by decide +kernel
theorem d_Mo_init_41 : decode prog_8_method_1_code 41 = .ok (.putfield 22, 3) := by decide +kernel
theorem d_Mo_init_44 : decode prog_8_method_1_code 44 = .ok (.aload_n 0, 1) := by decide +kernel
theorem d_Mo_init_45 : decode prog_8_method_1_code 45 = .ok (.sipush 320, 3) := by decide +kernel
theorem d_Mo_init_48 : decode prog_8_method_1_code 48 = .ok (.newarray .double, 2) := by decide +kernel
theorem d_Mo_init_50 : decode prog_8_method_1_code 50 = .ok (.putfield 25, 3) := by decide +kernel
theorem d_Mo_init_53 : decode prog_8_method_1_code 53 = .ok (.aload_n 0, 1) := by decide +kernel
theorem d_Mo_init_54 : decode prog_8_method_1_code 54 = .ok (.bipush 14, 2) := by decide +kernel
theorem d_Mo_init_56 : decode prog_8_method_1_code 56 = .ok (.newarray .int, 2) := by decide +kernel
theorem d_Mo_init_58 : decode prog_8_method_1_code 58 = .ok (.putfield 29, 3) := by decide +kernel
theorem d_Mo_init_61 : decode prog_8_method_1_code 61 = .ok (.aload_n 0, 1) := by decide +kernel
theorem d_Mo_init_62 : decode prog_8_method_1_code 62 = .ok (.bipush 14, 2) := by decide +kernel
theorem d_Mo_init_64 : decode prog_8_method_1_code 64 = .ok (.newarray .int, 2) := by decide +kernel
theorem d_Mo_init_66 : decode prog_8_method_1_code 66 = .ok (.putfield 32, 3) := by decide +kernel
theorem d_Mo_init_69 : decode prog_8_method_1_code 69 = .ok (.aload_n 0, 1) := by decide +kernel
theorem d_Mo_init_70 : decode prog_8_method_1_code 70 = .ok (.bipush 14, 2) := by decide +kernel
theorem d_Mo_init_72 : decode prog_8_method_1_code 72 = .ok (.newarray .int, 2) := by decide +kernel
theorem d_Mo_init_74 : decode prog_8_method_1_code 74 = .ok (.putfield 35, 3) := by decide +kernel
theorem d_Mo_init_77 : decode prog_8_method_1_code 77 = .ok (.aload_n 0, 1) := by decide +kernel
theorem d_Mo_init_78 : decode prog_8_method_1_code 78 = .ok (.bipush 14, 2) := by decide +kernel
theorem d_Mo_init_80 : decode prog_8_method_1_code 80 = .ok (.newarray .int, 2) := by decide +kernel
theorem d_Mo_init_82 : decode prog_8_method_1_code 82 = .ok (.putfield 38, 3) := by decide +kernel
theorem d_Mo_init_85 : decode prog_8_method_1_code 85 = .ok (.aload_n 0, 1) := by decide +kernel
theorem d_Mo_init_86 : decode prog_8_method_1_code 86 = .ok (.bipush 14, 2) := by decide +kernel
theorem d_Mo_init_88 : decode prog_8_method_1_code 88 = .ok (.newarray .int, 2) := by decide +kernel
theorem d_Mo_init_90 : decode prog_8_method_1_code 90 = .ok (.putfield 41, 3) := by decide +kernel
theorem d_Mo_init_93 : decode prog_8_method_1_code 93 = .ok (.aload_n 0, 1) := by decide +kernel
theorem d_Mo_init_94 : decode prog_8_method_1_code 94 = .ok (.bipush 14, 2) := by decide +kernel
theorem d_Mo_init_96 : decode prog_8_method_1_code 96 = .ok (.newarray .int, 2) := by decide +kernel
theorem d_Mo_init_98 : decode prog_8_method_1_code 98 = .ok (.putfield 44, 3) := by decide +kernel
theorem d_Mo_init_101 : decode prog_8_method_1_code 101 = .ok (.aload_n 0, 1) := by decide +kernel
theorem d_Mo_init_102 : decode prog_8_method_1_code 102 = .ok (.bipush 42, 2) := by decide +kernel
theorem d_Mo_init_104 : decode prog_8_method_1_code 104 = .ok (.newarray .int, 2) := by decide +kernel
theorem d_Mo_init_106 : decode prog_8_method_1_code 106 = .ok (.putfield 47, 3) := by decide +kernel
theorem d_Mo_init_109 : decode prog_8_method_1_code 109 = .ok (.aload_n 0, 1) := by decide +kernel
theorem d_Mo_init_110 : decode prog_8_method_1_code 110 = .ok (.bipush 16, 2) := by decide +kernel
theorem d_Mo_init_112 : decode prog_8_method_1_code 112 = .ok (.newarray .double, 2) := by decide +kernel
theorem d_Mo_init_114 : decode prog_8_method_1_code 114 = .ok (.putfield 50, 3) := by decide +kernel
theorem d_Mo_init_117 : decode prog_8_method_1_code 117 = .ok (.aload_n 0, 1) := by decide +kernel
theorem d_Mo_init_118 : decode prog_8_method_1_code 118 = .ok (.iconst 1, 1) := by decide +kernel
theorem d_Mo_init_119 : decode prog_8_method_1_code 119 = .ok (.putfield 53, 3) := by decide +kernel
theorem d_Mo_init_122 : decode prog_8_method_1_code 122 = .ok (.return_, 1) := by decide +kernel
theorem d_Mo_thrown_0 : decode prog_8_method_2_code 0 = .ok (.aload_n 0, 1) := by decide +kernel
theorem d_Mo_thrown_1 : decode prog_8_method_2_code 1 = .ok (.getfield 57, 3) := by decide +kernel
theorem d_Mo_thrown_4 : decode prog_8_method_2_code 4 = .ok (.ireturn, 1) := by decide +kernel
theorem d_Mo_table_0 : decode prog_8_method_6_code 0 = .ok (.aload_n 0, 1) := by decide +kernel
theorem d_Mo_table_1 : decode prog_8_method_6_code 1 = .ok (.aload_n 0, 1) := by decide +kernel
theorem d_Mo_table_2 : decode prog_8_method_6_code 2 = .ok (.iload_n 1, 1) := by decide +kernel
theorem d_Mo_table_3 : decode prog_8_method_6_code 3 = .ok (.invokevirtual 64, 3) := by decide +kernel
theorem d_Mo_table_6 : decode prog_8_method_6_code 6 = .ok (.ifCond .ne 43, 3) := by decide +kernel
theorem d_Mo_table_9 : decode prog_8_method_6_code 9 = .ok (.aload_n 0, 1) := by decide +kernel
theorem d_Mo_table_10 : decode prog_8_method_6_code 10 = .ok (.getfield 7, 3) := by decide +kernel
theorem d_Mo_table_13 : decode prog_8_method_6_code 13 = .ok (.iload_n 1, 1) := by decide +kernel
theorem d_Mo_table_14 : decode prog_8_method_6_code 14 = .ok (.iaload, 1) := by decide +kernel
theorem d_Mo_table_15 : decode prog_8_method_6_code 15 = .ok (.ifCond .ne 34, 3) := by decide +kernel
theorem d_Mo_table_18 : decode prog_8_method_6_code 18 = .ok (.aload_n 0, 1) := by decide +kernel
theorem d_Mo_table_19 : decode prog_8_method_6_code 19 = .ok (.iload_n 2, 1) := by decide +kernel
theorem d_Mo_table_20 : decode prog_8_method_6_code 20 = .ok (.iconst 0, 1) := by decide +kernel
theorem d_Mo_table_21 : decode prog_8_method_6_code 21 = .ok (.iconst 1, 1) := by decide +kernel
theorem d_Mo_table_22 : decode prog_8_method_6_code 22 = .ok (.invokevirtual 68, 3) := by decide +kernel
theorem d_Mo_table_25 : decode prog_8_method_6_code 25 = .ok (.ifCond .ne 24, 3) := by decide +kernel
theorem d_Mo_table_28 : decode prog_8_method_6_code 28 = .ok (.aload_n 0, 1) := by decide +kernel
theorem d_Mo_table_29 : decode prog_8_method_6_code 29 = .ok (.iload_n 3, 1) := by decide +kernel
theorem d_Mo_table_30 : decode prog_8_method_6_code 30 = .ok (.iconst 1, 1) := by decide +kernel
theorem d_Mo_table_31 : decode prog_8_method_6_code 31 = .ok (.iconst 4, 1) := by decide +kernel
theorem d_Mo_table_32 : decode prog_8_method_6_code 32 = .ok (.invokevirtual 68, 3) := by decide +kernel
theorem d_Mo_table_35 : decode prog_8_method_6_code 35 = .ok (.ifCond .ne 14, 3) := by decide +kernel
theorem d_Mo_table_38 : decode prog_8_method_6_code 38 = .ok (.aload_n 0, 1) := by decide +kernel
theorem d_Mo_table_39 : decode prog_8_method_6_code 39 = .ok (.iload 4, 2) := by decide +kernel
theorem d_Mo_table_41 : decode prog_8_method_6_code 41 = .ok (.iconst 1, 1) := by decide +kernel
theorem d_Mo_table_42 : decode prog_8_method_6_code 42 = .ok (.iconst 4, 1) := by decide +kernel
theorem d_Mo_table_43 : decode prog_8_method_6_code 43 = .ok (.invokevirtual 68, 3) := by decide +kernel
theorem d_Mo_table_46 : decode prog_8_method_6_code 46 = .ok (.ifCond .eq 7, 3) := by decide +kernel
theorem d_Mo_table_49 : decode prog_8_method_6_code 49 = .ok (.iconst 1, 1) := by decide +kernel
theorem d_Mo_table_50 : decode prog_8_method_6_code 50 = .ok (.goto 4, 3) := by decide +kernel
theorem d_Mo_table_53 : decode prog_8_method_6_code 53 = .ok (.iconst 0, 1) := by decide +kernel
theorem d_Mo_table_54 : decode prog_8_method_6_code 54 = .ok (.putfield 57, 3) := by decide +kernel
theorem d_Mo_table_57 : decode prog_8_method_6_code 57 = .ok (.aload_n 0, 1) := by decide +kernel
theorem d_Mo_table_58 : decode prog_8_method_6_code 58 = .ok (.getfield 57, 3) := by decide +kernel
theorem d_Mo_table_61 : decode prog_8_method_6_code 61 = .ok (.ifCond .eq 4, 3) := by decide +kernel
theorem d_Mo_table_64 : decode prog_8_method_6_code 64 = .ok (.return_, 1) := by decide +kernel
theorem d_Mo_table_65 : decode prog_8_method_6_code 65 = .ok (.aload_n 0, 1) := by decide +kernel
theorem d_Mo_table_66 : decode prog_8_method_6_code 66 = .ok (.getfield 7, 3) := by decide +kernel
theorem d_Mo_table_69 : decode prog_8_method_6_code 69 = .ok (.iload_n 1, 1) := by decide +kernel
theorem d_Mo_table_70 : decode prog_8_method_6_code 70 = .ok (.iload 5, 2) := by decide +kernel
theorem d_Mo_table_72 : decode prog_8_method_6_code 72 = .ok (.ifCond .eq 7, 3) := by decide +kernel
theorem d_Mo_table_75 : decode prog_8_method_6_code 75 = .ok (.iconst 2, 1) := by decide +kernel
theorem d_Mo_table_76 : decode prog_8_method_6_code 76 = .ok (.goto 4, 3) := by decide +kernel
theorem d_Mo_table_79 : decode prog_8_method_6_code 79 = .ok (.iconst 1, 1) := by decide +kernel
theorem d_Mo_table_80 : decode prog_8_method_6_code 80 = .ok (.iastore, 1) := by decide +kernel
theorem d_Mo_table_81 : decode prog_8_method_6_code 81 = .ok (.aload_n 0, 1) := by decide +kernel
theorem d_Mo_table_82 : decode prog_8_method_6_code 82 = .ok (.getfield 13, 3) := by decide +kernel
theorem d_Mo_table_85 : decode prog_8_method_6_code 85 = .ok (.iload_n 1, 1) := by decide +kernel
theorem d_Mo_table_86 : decode prog_8_method_6_code 86 = .ok (.iload_n 2, 1) := by decide +kernel
theorem d_Mo_table_87 : decode prog_8_method_6_code 87 = .ok (.iastore, 1) := by decide +kernel
theorem d_Mo_table_88 : decode prog_8_method_6_code 88 = .ok (.aload_n 0, 1) := by decide +kernel
theorem d_Mo_table_89 : decode prog_8_method_6_code 89 = .ok (.getfield 16, 3) := by decide +kernel
theorem d_Mo_table_92 : decode prog_8_method_6_code 92 = .ok (.iload_n 1, 1) := by decide +kernel
theorem d_Mo_table_93 : decode prog_8_method_6_code 93 = .ok (.iload_n 3, 1) := by decide +kernel
theorem d_Mo_table_94 : decode prog_8_method_6_code 94 = .ok (.iastore, 1) := by decide +kernel
theorem d_Mo_table_95 : decode prog_8_method_6_code 95 = .ok (.aload_n 0, 1) := by decide +kernel
theorem d_Mo_table_96 : decode prog_8_method_6_code 96 = .ok (.getfield 19, 3) := by decide +kernel
theorem d_Mo_table_99 : decode prog_8_method_6_code 99 = .ok (.iload_n 1, 1) := by decide +kernel
theorem d_Mo_table_100 : decode prog_8_method_6_code 100 = .ok (.iload 4, 2) := by decide +kernel
theorem d_Mo_table_102 : decode prog_8_method_6_code 102 = .ok (.iastore, 1) := by decide +kernel
theorem d_Mo_table_103 : decode prog_8_method_6_code 103 = .ok (.iconst 0, 1) := by decide +kernel
theorem d_Mo_table_104 : decode prog_8_method_6_code 104 = .ok (.istore 6, 2) := by decide +kernel
theorem d_Mo_table_106 : decode prog_8_method_6_code 106 = .ok (.iload 6, 2) := by decide +kernel
theorem d_Mo_table_108 : decode prog_8_method_6_code 108 = .ok (.bipush 16, 2) := by decide +kernel
theorem d_Mo_table_110 : decode prog_8_method_6_code 110 = .ok (.if_icmp .ge 22, 3) := by decide +kernel
theorem d_Mo_table_113 : decode prog_8_method_6_code 113 = .ok (.aload_n 0, 1) := by decide +kernel
theorem d_Mo_table_114 : decode prog_8_method_6_code 114 = .ok (.getfield 25, 3) := by decide +kernel
theorem d_Mo_table_117 : decode prog_8_method_6_code 117 = .ok (.iload_n 1, 1) := by decide +kernel
theorem d_Mo_table_118 : decode prog_8_method_6_code 118 = .ok (.bipush 16, 2) := by decide +kernel
theorem d_Mo_table_120 : decode prog_8_method_6_code 120 = .ok (.imul, 1) := by decide +kernel
theorem d_Mo_table_121 : decode prog_8_method_6_code 121 = .ok (.iload 6, 2) := by decide +kernel
theorem d_Mo_table_123 : decode prog_8_method_6_code 123 = .ok (.iadd, 1) := by decide +kernel
theorem d_Mo_table_124 : decode prog_8_method_6_code 124 = .ok (.dconst 0, 1) := by decide +kernel
theorem d_Mo_table_125 : decode prog_8_method_6_code 125 = .ok (.dastore, 1) := by decide +kernel
theorem d_Mo_table_126 : decode prog_8_method_6_code 126 = .ok (.iinc 6 1, 3) := by decide +kernel
theorem d_Mo_table_129 : decode prog_8_method_6_code 129 = .ok (.goto (-23), 3) := by decide +kernel
theorem d_Mo_table_132 : decode prog_8_method_6_code 132 = .ok (.aload_n 0, 1) := by decide +kernel
theorem d_Mo_table_133 : decode prog_8_method_6_code 133 = .ok (.invokevirtual 71, 3) := by decide +kernel
theorem d_Mo_table_136 : decode prog_8_method_6_code 136 = .ok (.return_, 1) := by decide +kernel
theorem d_Mo_noSlot_0 : decode prog_8_method_3_code 0 = .ok (.iload_n 1, 1) := by decide +kernel
theorem d_Mo_noSlot_1 : decode prog_8_method_3_code 1 = .ok (.ifCond .lt 9, 3) := by decide +kernel
theorem d_Mo_noSlot_4 : decode prog_8_method_3_code 4 = .ok (.iload_n 1, 1) := by decide +kernel
theorem d_Mo_noSlot_5 : decode prog_8_method_3_code 5 = .ok (.bipush 19, 2) := by decide +kernel
theorem d_Mo_noSlot_7 : decode prog_8_method_3_code 7 = .ok (.if_icmp .le 7, 3) := by decide +kernel
theorem d_Mo_noSlot_10 : decode prog_8_method_3_code 10 = .ok (.iconst 1, 1) := by decide +kernel
theorem d_Mo_noSlot_11 : decode prog_8_method_3_code 11 = .ok (.goto 4, 3) := by decide +kernel
theorem d_Mo_noSlot_14 : decode prog_8_method_3_code 14 = .ok (.iconst 0, 1) := by decide +kernel
theorem d_Mo_noSlot_15 : decode prog_8_method_3_code 15 = .ok (.ireturn, 1) := by decide +kernel
theorem d_Mo_out_0 : decode prog_8_method_4_code 0 = .ok (.iload_n 1, 1) := by decide +kernel
theorem d_Mo_out_1 : decode prog_8_method_4_code 1 = .ok (.iload_n 2, 1) := by decide +kernel
theorem d_Mo_out_2 : decode prog_8_method_4_code 2 = .ok (.if_icmp .lt 8, 3) := by decide +kernel
theorem d_Mo_out_5 : decode prog_8_method_4_code 5 = .ok (.iload_n 1, 1) := by decide +kernel
theorem d_Mo_out_6 : decode prog_8_method_4_code 6 = .ok (.iload_n 3, 1) := by decide +kernel
theorem d_Mo_out_7 : decode prog_8_method_4_code 7 = .ok (.if_icmp .le 7, 3) := by decide +kernel
theorem d_Mo_out_10 : decode prog_8_method_4_code 10 = .ok (.iconst 1, 1) := by decide +kernel
theorem d_Mo_out_11 : decode prog_8_method_4_code 11 = .ok (.goto 4, 3) := by decide +kernel
theorem d_Mo_out_14 : decode prog_8_method_4_code 14 = .ok (.iconst 0, 1) := by decide +kernel
theorem d_Mo_out_15 : decode prog_8_method_4_code 15 = .ok (.ireturn, 1) := by decide +kernel
theorem d_Mo_change_0 : decode prog_8_method_5_code 0 = .ok (.aload_n 0, 1) := by decide +kernel
theorem d_Mo_change_1 : decode prog_8_method_5_code 1 = .ok (.iconst 0, 1) := by decide +kernel
theorem d_Mo_change_2 : decode prog_8_method_5_code 2 = .ok (.putfield 53, 3) := by decide +kernel
theorem d_Mo_change_5 : decode prog_8_method_5_code 5 = .ok (.iconst 0, 1) := by decide +kernel
theorem d_Mo_change_6 : decode prog_8_method_5_code 6 = .ok (.istore_n 1, 1) := by decide +kernel
theorem d_Mo_change_7 : decode prog_8_method_5_code 7 = .ok (.iload_n 1, 1) := by decide +kernel
theorem d_Mo_change_8 : decode prog_8_method_5_code 8 = .ok (.bipush 14, 2) := by decide +kernel
theorem d_Mo_change_10 : decode prog_8_method_5_code 10 = .ok (.if_icmp .ge 16, 3) := by decide +kernel
theorem d_Mo_change_13 : decode prog_8_method_5_code 13 = .ok (.aload_n 0, 1) := by decide +kernel
theorem d_Mo_change_14 : decode prog_8_method_5_code 14 = .ok (.getfield 41, 3) := by decide +kernel
theorem d_Mo_change_17 : decode prog_8_method_5_code 17 = .ok (.iload_n 1, 1) := by decide +kernel
theorem d_Mo_change_18 : decode prog_8_method_5_code 18 = .ok (.iconst 0, 1) := by decide +kernel
theorem d_Mo_change_19 : decode prog_8_method_5_code 19 = .ok (.iastore, 1) := by decide +kernel
theorem d_Mo_change_20 : decode prog_8_method_5_code 20 = .ok (.iinc 1 1, 3) := by decide +kernel
theorem d_Mo_change_23 : decode prog_8_method_5_code 23 = .ok (.goto (-16), 3) := by decide +kernel
theorem d_Mo_change_26 : decode prog_8_method_5_code 26 = .ok (.aload_n 0, 1) := by decide +kernel
theorem d_Mo_change_27 : decode prog_8_method_5_code 27 = .ok (.iconst 0, 1) := by decide +kernel
theorem d_Mo_change_28 : decode prog_8_method_5_code 28 = .ok (.putfield 61, 3) := by decide +kernel
theorem d_Mo_change_31 : decode prog_8_method_5_code 31 = .ok (.return_, 1) := by decide +kernel
theorem d_Mo_set_0 : decode prog_8_method_7_code 0 = .ok (.aload_n 0, 1) := by decide +kernel
theorem d_Mo_set_1 : decode prog_8_method_7_code 1 = .ok (.iload_n 1, 1) := by decide +kernel
theorem d_Mo_set_2 : decode prog_8_method_7_code 2 = .ok (.invokevirtual 64, 3) := by decide +kernel
theorem d_Mo_set_5 : decode prog_8_method_7_code 5 = .ok (.ifCond .ne 69, 3) := by decide +kernel
theorem d_Mo_set_8 : decode prog_8_method_7_code 8 = .ok (.aload_n 0, 1) := by decide +kernel
theorem d_Mo_set_9 : decode prog_8_method_7_code 9 = .ok (.getfield 7, 3) := by decide +kernel
theorem d_Mo_set_12 : decode prog_8_method_7_code 12 = .ok (.iload_n 1, 1) := by decide +kernel
theorem d_Mo_set_13 : decode prog_8_method_7_code 13 = .ok (.iaload, 1) := by decide +kernel
theorem d_Mo_set_14 : decode prog_8_method_7_code 14 = .ok (.iconst 1, 1) := by decide +kernel
theorem d_Mo_set_15 : decode prog_8_method_7_code 15 = .ok (.if_icmp .lt 59, 3) := by decide +kernel
theorem d_Mo_set_18 : decode prog_8_method_7_code 18 = .ok (.aload_n 0, 1) := by decide +kernel
theorem d_Mo_set_19 : decode prog_8_method_7_code 19 = .ok (.getfield 7, 3) := by decide +kernel
theorem d_Mo_set_22 : decode prog_8_method_7_code 22 = .ok (.iload_n 1, 1) := by decide +kernel
theorem d_Mo_set_23 : decode prog_8_method_7_code 23 = .ok (.iaload, 1) := by decide +kernel
theorem d_Mo_set_24 : decode prog_8_method_7_code 24 = .ok (.iconst 2, 1) := by decide +kernel
theorem d_Mo_set_25 : decode prog_8_method_7_code 25 = .ok (.if_icmp .gt 49, 3) := by decide +kernel
theorem d_Mo_set_28 : decode prog_8_method_7_code 28 = .ok (.iload_n 2, 1) := by decide +kernel
theorem d_Mo_set_29 : decode prog_8_method_7_code 29 = .ok (.ifCond .lt 45, 3) := by decide +kernel
theorem d_Mo_set_32 : decode prog_8_method_7_code 32 = .ok (.iload_n 3, 1) := by decide +kernel
theorem d_Mo_set_33 : decode prog_8_method_7_code 33 = .ok (.ifCond .lt 41, 3) := by decide +kernel
theorem d_Mo_set_36 : decode prog_8_method_7_code 36 = .ok (.iload_n 2, 1) := by decide +kernel
theorem d_Mo_set_37 : decode prog_8_method_7_code 37 = .ok (.aload_n 0, 1) := by decide +kernel
theorem d_Mo_set_38 : decode prog_8_method_7_code 38 = .ok (.getfield 16, 3) := by decide +kernel
theorem d_Mo_set_41 : decode prog_8_method_7_code 41 = .ok (.iload_n 1, 1) := by decide +kernel
theorem d_Mo_set_42 : decode prog_8_method_7_code 42 = .ok (.iaload, 1) := by decide +kernel
theorem d_Mo_set_43 : decode prog_8_method_7_code 43 = .ok (.if_icmp .ge 31, 3) := by decide +kernel
theorem d_Mo_set_46 : decode prog_8_method_7_code 46 = .ok (.iload_n 3, 1) := by decide +kernel
theorem d_Mo_set_47 : decode prog_8_method_7_code 47 = .ok (.aload_n 0, 1) := by decide +kernel
theorem d_Mo_set_48 : decode prog_8_method_7_code 48 = .ok (.getfield 19, 3) := by decide +kernel
theorem d_Mo_set_51 : decode prog_8_method_7_code 51 = .ok (.iload_n 1, 1) := by decide +kernel
theorem d_Mo_set_52 : decode prog_8_method_7_code 52 = .ok (.iaload, 1) := by decide +kernel
theorem d_Mo_set_53 : decode prog_8_method_7_code 53 = .ok (.if_icmp .ge 21, 3) := by decide +kernel
theorem d_Mo_set_56 : decode prog_8_method_7_code 56 = .ok (.dload 4, 2) := by decide +kernel
theorem d_Mo_set_58 : decode prog_8_method_7_code 58 = .ok (.ldc2_w 74, 3) := by decide +kernel
theorem d_Mo_set_61 : decode prog_8_method_7_code 61 = .ok (.dcmp .l, 1) := by decide +kernel
theorem d_Mo_set_62 : decode prog_8_method_7_code 62 = .ok (.ifCond .lt 12, 3) := by decide +kernel
theorem d_Mo_set_65 : decode prog_8_method_7_code 65 = .ok (.dload 4, 2) := by decide +kernel
theorem d_Mo_set_67 : decode prog_8_method_7_code 67 = .ok (.ldc2_w 76, 3) := by decide +kernel
theorem d_Mo_set_70 : decode prog_8_method_7_code 70 = .ok (.dcmp .g, 1) := by decide +kernel
theorem d_Mo_set_71 : decode prog_8_method_7_code 71 = .ok (.ifCond .le 7, 3) := by decide +kernel
theorem d_Mo_set_74 : decode prog_8_method_7_code 74 = .ok (.iconst 1, 1) := by decide +kernel
theorem d_Mo_set_75 : decode prog_8_method_7_code 75 = .ok (.goto 4, 3) := by decide +kernel
theorem d_Mo_set_78 : decode prog_8_method_7_code 78 = .ok (.iconst 0, 1) := by decide +kernel
theorem d_Mo_set_79 : decode prog_8_method_7_code 79 = .ok (.istore 6, 2) := by decide +kernel
theorem d_Mo_set_81 : decode prog_8_method_7_code 81 = .ok (.aload_n 0, 1) := by decide +kernel
theorem d_Mo_set_82 : decode prog_8_method_7_code 82 = .ok (.iload 6, 2) := by decide +kernel
theorem d_Mo_set_84 : decode prog_8_method_7_code 84 = .ok (.ifCond .ne 23, 3) := by decide +kernel
theorem d_Mo_set_87 : decode prog_8_method_7_code 87 = .ok (.aload_n 0, 1) := by decide +kernel
theorem d_Mo_set_88 : decode prog_8_method_7_code 88 = .ok (.getfield 13, 3) := by decide +kernel
theorem d_Mo_set_91 : decode prog_8_method_7_code 91 = .ok (.iload_n 1, 1) := by decide +kernel
theorem d_Mo_set_92 : decode prog_8_method_7_code 92 = .ok (.iaload, 1) := by decide +kernel
theorem d_Mo_set_93 : decode prog_8_method_7_code 93 = .ok (.iconst 1, 1) := by decide +kernel
theorem d_Mo_set_94 : decode prog_8_method_7_code 94 = .ok (.if_icmp .ne 17, 3) := by decide +kernel
theorem d_Mo_set_97 : decode prog_8_method_7_code 97 = .ok (.dload 4, 2) := by decide +kernel
theorem d_Mo_set_99 : decode prog_8_method_7_code 99 = .ok (.dload 4, 2) := by decide +kernel
theorem d_Mo_set_101 : decode prog_8_method_7_code 101 = .ok (.d2i, 1) := by decide +kernel
theorem d_Mo_set_102 : decode prog_8_method_7_code 102 = .ok (.i2d, 1) := by decide +kernel
theorem d_Mo_set_103 : decode prog_8_method_7_code 103 = .ok (.dcmp .l, 1) := by decide +kernel
theorem d_Mo_set_104 : decode prog_8_method_7_code 104 = .ok (.ifCond .eq 7, 3) := by decide +kernel
theorem d_Mo_set_107 : decode prog_8_method_7_code 107 = .ok (.iconst 1, 1) := by decide +kernel
theorem d_Mo_set_108 : decode prog_8_method_7_code 108 = .ok (.goto 4, 3) := by decide +kernel
theorem d_Mo_set_111 : decode prog_8_method_7_code 111 = .ok (.iconst 0, 1) := by decide +kernel
theorem d_Mo_set_112 : decode prog_8_method_7_code 112 = .ok (.putfield 57, 3) := by decide +kernel
theorem d_Mo_set_115 : decode prog_8_method_7_code 115 = .ok (.aload_n 0, 1) := by decide +kernel
theorem d_Mo_set_116 : decode prog_8_method_7_code 116 = .ok (.getfield 57, 3) := by decide +kernel
theorem d_Mo_set_119 : decode prog_8_method_7_code 119 = .ok (.ifCond .eq 4, 3) := by decide +kernel
theorem d_Mo_set_122 : decode prog_8_method_7_code 122 = .ok (.return_, 1) := by decide +kernel
theorem d_Mo_set_123 : decode prog_8_method_7_code 123 = .ok (.aload_n 0, 1) := by decide +kernel
theorem d_Mo_set_124 : decode prog_8_method_7_code 124 = .ok (.getfield 25, 3) := by decide +kernel
theorem d_Mo_set_127 : decode prog_8_method_7_code 127 = .ok (.iload_n 1, 1) := by decide +kernel
theorem d_Mo_set_128 : decode prog_8_method_7_code 128 = .ok (.bipush 16, 2) := by decide +kernel
theorem d_Mo_set_130 : decode prog_8_method_7_code 130 = .ok (.imul, 1) := by decide +kernel
theorem d_Mo_set_131 : decode prog_8_method_7_code 131 = .ok (.iload_n 2, 1) := by decide +kernel
theorem d_Mo_set_132 : decode prog_8_method_7_code 132 = .ok (.iconst 4, 1) := by decide +kernel
theorem d_Mo_set_133 : decode prog_8_method_7_code 133 = .ok (.imul, 1) := by decide +kernel
theorem d_Mo_set_134 : decode prog_8_method_7_code 134 = .ok (.iadd, 1) := by decide +kernel
theorem d_Mo_set_135 : decode prog_8_method_7_code 135 = .ok (.iload_n 3, 1) := by decide +kernel
theorem d_Mo_set_136 : decode prog_8_method_7_code 136 = .ok (.iadd, 1) := by decide +kernel
theorem d_Mo_set_137 : decode prog_8_method_7_code 137 = .ok (.aload_n 0, 1) := by decide +kernel
theorem d_Mo_set_138 : decode prog_8_method_7_code 138 = .ok (.getfield 13, 3) := by decide +kernel
theorem d_Mo_set_141 : decode prog_8_method_7_code 141 = .ok (.iload_n 1, 1) := by decide +kernel
theorem d_Mo_set_142 : decode prog_8_method_7_code 142 = .ok (.iaload, 1) := by decide +kernel
theorem d_Mo_set_143 : decode prog_8_method_7_code 143 = .ok (.iconst 1, 1) := by decide +kernel
theorem d_Mo_set_144 : decode prog_8_method_7_code 144 = .ok (.if_icmp .ne 10, 3) := by decide +kernel
theorem d_Mo_set_147 : decode prog_8_method_7_code 147 = .ok (.dload 4, 2) := by decide +kernel
theorem d_Mo_set_149 : decode prog_8_method_7_code 149 = .ok (.d2i, 1) := by decide +kernel
theorem d_Mo_set_150 : decode prog_8_method_7_code 150 = .ok (.i2d, 1) := by decide +kernel
theorem d_Mo_set_151 : decode prog_8_method_7_code 151 = .ok (.goto 5, 3) := by decide +kernel
theorem d_Mo_set_154 : decode prog_8_method_7_code 154 = .ok (.dload 4, 2) := by decide +kernel
theorem d_Mo_set_156 : decode prog_8_method_7_code 156 = .ok (.dastore, 1) := by decide +kernel
theorem d_Mo_set_157 : decode prog_8_method_7_code 157 = .ok (.aload_n 0, 1) := by decide +kernel
theorem d_Mo_set_158 : decode prog_8_method_7_code 158 = .ok (.getfield 7, 3) := by decide +kernel
theorem d_Mo_set_161 : decode prog_8_method_7_code 161 = .ok (.iload_n 1, 1) := by decide +kernel
theorem d_Mo_set_162 : decode prog_8_method_7_code 162 = .ok (.iaload, 1) := by decide +kernel
theorem d_Mo_set_163 : decode prog_8_method_7_code 163 = .ok (.iconst 2, 1) := by decide +kernel
theorem d_Mo_set_164 : decode prog_8_method_7_code 164 = .ok (.if_icmp .ne 10, 3) := by decide +kernel
theorem d_Mo_set_167 : decode prog_8_method_7_code 167 = .ok (.aload_n 0, 1) := by decide +kernel
theorem d_Mo_set_168 : decode prog_8_method_7_code 168 = .ok (.invokevirtual 71, 3) := by decide +kernel
theorem d_Mo_set_171 : decode prog_8_method_7_code 171 = .ok (.goto 38, 3) := by decide +kernel
theorem d_Mo_set_174 : decode prog_8_method_7_code 174 = .ok (.iconst 0, 1) := by decide +kernel
theorem d_Mo_set_175 : decode prog_8_method_7_code 175 = .ok (.istore 7, 2) := by decide +kernel
theorem d_Mo_set_177 : decode prog_8_method_7_code 177 = .ok (.iload 7, 2) := by decide +kernel
theorem d_Mo_set_179 : decode prog_8_method_7_code 179 = .ok (.bipush 14, 2) := by decide +kernel
theorem d_Mo_set_181 : decode prog_8_method_7_code 181 = .ok (.if_icmp .ge 28, 3) := by decide +kernel
theorem d_Mo_set_184 : decode prog_8_method_7_code 184 = .ok (.aload_n 0, 1) := by decide +kernel
theorem d_Mo_set_185 : decode prog_8_method_7_code 185 = .ok (.getfield 41, 3) := by decide +kernel
theorem d_Mo_set_188 : decode prog_8_method_7_code 188 = .ok (.iload 7, 2) := by decide +kernel
theorem d_Mo_set_190 : decode prog_8_method_7_code 190 = .ok (.iaload, 1) := by decide +kernel
theorem d_Mo_set_191 : decode prog_8_method_7_code 191 = .ok (.iconst 2, 1) := by decide +kernel
theorem d_Mo_set_192 : decode prog_8_method_7_code 192 = .ok (.if_icmp .ne 11, 3) := by decide +kernel
theorem d_Mo_set_195 : decode prog_8_method_7_code 195 = .ok (.aload_n 0, 1) := by decide +kernel
theorem d_Mo_set_196 : decode prog_8_method_7_code 196 = .ok (.getfield 41, 3) := by decide +kernel
theorem d_Mo_set_199 : decode prog_8_method_7_code 199 = .ok (.iload 7, 2) := by decide +kernel
theorem d_Mo_set_201 : decode prog_8_method_7_code 201 = .ok (.iconst 0, 1) := by decide +kernel
theorem d_Mo_set_202 : decode prog_8_method_7_code 202 = .ok (.iastore, 1) := by decide +kernel
theorem d_Mo_set_203 : decode prog_8_method_7_code 203 = .ok (.iinc 7 1, 3) := by decide +kernel
theorem d_Mo_set_206 : decode prog_8_method_7_code 206 = .ok (.goto (-29), 3) := by decide +kernel
theorem d_Mo_set_209 : decode prog_8_method_7_code 209 = .ok (.return_, 1) := by decide +kernel
theorem d_Mo_node_0 : decode prog_8_method_9_code 0 = .ok (.aload_n 0, 1) := by decide +kernel
theorem d_Mo_node_1 : decode prog_8_method_9_code 1 = .ok (.iload_n 1, 1) := by decide +kernel
theorem d_Mo_node_2 : decode prog_8_method_9_code 2 = .ok (.iconst 0, 1) := by decide +kernel
theorem d_Mo_node_3 : decode prog_8_method_9_code 3 = .ok (.bipush 18, 2) := by decide +kernel
theorem d_Mo_node_5 : decode prog_8_method_9_code 5 = .ok (.invokevirtual 68, 3) := by decide +kernel
theorem d_Mo_node_8 : decode prog_8_method_9_code 8 = .ok (.ifCond .ne 46, 3) := by decide +kernel
theorem d_Mo_node_11 : decode prog_8_method_9_code 11 = .ok (.aload_n 0, 1) := by decide +kernel
theorem d_Mo_node_12 : decode prog_8_method_9_code 12 = .ok (.iload 5, 2) := by decide +kernel
theorem d_Mo_node_14 : decode prog_8_method_9_code 14 = .ok (.invokevirtual 64, 3) := by decide +kernel
theorem d_Mo_node_17 : decode prog_8_method_9_code 17 = .ok (.ifCond .ne 37, 3) := by decide +kernel
theorem d_Mo_node_20 : decode prog_8_method_9_code 20 = .ok (.aload_n 0, 1) := by decide +kernel
theorem d_Mo_node_21 : decode prog_8_method_9_code 21 = .ok (.iload 6, 2) := by decide +kernel
theorem d_Mo_node_23 : decode prog_8_method_9_code 23 = .ok (.bipush (-8), 2) := by decide +kernel
theorem d_Mo_node_25 : decode prog_8_method_9_code 25 = .ok (.bipush 8, 2) := by decide +kernel
theorem d_Mo_node_27 : decode prog_8_method_9_code 27 = .ok (.invokevirtual 68, 3) := by decide +kernel
theorem d_Mo_node_30 : decode prog_8_method_9_code 30 = .ok (.ifCond .ne 24, 3) := by decide +kernel
theorem d_Mo_node_33 : decode prog_8_method_9_code 33 = .ok (.aload_n 0, 1) := by decide +kernel
theorem d_Mo_node_34 : decode prog_8_method_9_code 34 = .ok (.iload 7, 2) := by decide +kernel
theorem d_Mo_node_36 : decode prog_8_method_9_code 36 = .ok (.bipush (-8), 2) := by decide +kernel
theorem d_Mo_node_38 : decode prog_8_method_9_code 38 = .ok (.bipush 8, 2) := by decide +kernel
theorem d_Mo_node_40 : decode prog_8_method_9_code 40 = .ok (.invokevirtual 68, 3) := by decide +kernel
theorem d_Mo_node_43 : decode prog_8_method_9_code 43 = .ok (.ifCond .ne 11, 3) := by decide +kernel
theorem d_Mo_node_46 : decode prog_8_method_9_code 46 = .ok (.aload_n 0, 1) := by decide +kernel
theorem d_Mo_node_47 : decode prog_8_method_9_code 47 = .ok (.iload_n 2, 1) := by decide +kernel
theorem d_Mo_node_48 : decode prog_8_method_9_code 48 = .ok (.invokevirtual 64, 3) := by decide +kernel
theorem d_Mo_node_51 : decode prog_8_method_9_code 51 = .ok (.ifCond .eq 7, 3) := by decide +kernel
theorem d_Mo_node_54 : decode prog_8_method_9_code 54 = .ok (.iconst 1, 1) := by decide +kernel
theorem d_Mo_node_55 : decode prog_8_method_9_code 55 = .ok (.goto 4, 3) := by decide +kernel
theorem d_Mo_node_58 : decode prog_8_method_9_code 58 = .ok (.iconst 0, 1) := by decide +kernel
theorem d_Mo_node_59 : decode prog_8_method_9_code 59 = .ok (.istore 8, 2) := by decide +kernel
theorem d_Mo_node_61 : decode prog_8_method_9_code 61 = .ok (.iload 8, 2) := by decide +kernel
theorem d_Mo_node_63 : decode prog_8_method_9_code 63 = .ok (.ifCond .ne 72, 3) := by decide +kernel
theorem d_Mo_node_66 : decode prog_8_method_9_code 66 = .ok (.aload_n 0, 1) := by decide +kernel
theorem d_Mo_node_67 : decode prog_8_method_9_code 67 = .ok (.getfield 7, 3) := by decide +kernel
theorem d_Mo_node_70 : decode prog_8_method_9_code 70 = .ok (.iload 5, 2) := by decide +kernel
theorem d_Mo_node_72 : decode prog_8_method_9_code 72 = .ok (.iaload, 1) := by decide +kernel
theorem d_Mo_node_73 : decode prog_8_method_9_code 73 = .ok (.ifCond .ne 55, 3) := by decide +kernel
theorem d_Mo_node_76 : decode prog_8_method_9_code 76 = .ok (.aload_n 0, 1) := by decide +kernel
theorem d_Mo_node_77 : decode prog_8_method_9_code 77 = .ok (.iload_n 1, 1) := by decide +kernel
theorem d_Mo_node_78 : decode prog_8_method_9_code 78 = .ok (.invokevirtual 78, 3) := by decide +kernel
theorem d_Mo_node_81 : decode prog_8_method_9_code 81 = .ok (.iconst 1, 1) := by decide +kernel
theorem d_Mo_node_82 : decode prog_8_method_9_code 82 = .ok (.if_icmp .le 14, 3) := by decide +kernel
theorem d_Mo_node_85 : decode prog_8_method_9_code 85 = .ok (.aload_n 0, 1) := by decide +kernel
theorem d_Mo_node_86 : decode prog_8_method_9_code 86 = .ok (.iload_n 3, 1) := by decide +kernel
theorem d_Mo_node_87 : decode prog_8_method_9_code 87 = .ok (.invokevirtual 64, 3) := by decide +kernel
theorem d_Mo_node_90 : decode prog_8_method_9_code 90 = .ok (.ifCond .eq 11, 3) := by decide +kernel
theorem d_Mo_node_93 : decode prog_8_method_9_code 93 = .ok (.goto 35, 3) := by decide +kernel
theorem d_Mo_node_96 : decode prog_8_method_9_code 96 = .ok (.iload_n 3, 1) := by decide +kernel
theorem d_Mo_node_97 : decode prog_8_method_9_code 97 = .ok (.iconst (-1), 1) := by decide +kernel
theorem d_Mo_node_98 : decode prog_8_method_9_code 98 = .ok (.if_icmp .ne 30, 3) := by decide +kernel
theorem d_Mo_node_101 : decode prog_8_method_9_code 101 = .ok (.aload_n 0, 1) := by decide +kernel
theorem d_Mo_node_102 : decode prog_8_method_9_code 102 = .ok (.iload_n 1, 1) := by decide +kernel
theorem d_Mo_node_103 : decode prog_8_method_9_code 103 = .ok (.invokevirtual 78, 3) := by decide +kernel
theorem d_Mo_node_106 : decode prog_8_method_9_code 106 = .ok (.iconst 2, 1) := by decide +kernel
theorem d_Mo_node_107 : decode prog_8_method_9_code 107 = .ok (.if_icmp .le 15, 3) := by decide +kernel
theorem d_Mo_node_110 : decode prog_8_method_9_code 110 = .ok (.aload_n 0, 1) := by decide +kernel
theorem d_Mo_node_111 : decode prog_8_method_9_code 111 = .ok (.iload 4, 2) := by decide +kernel
theorem d_Mo_node_113 : decode prog_8_method_9_code 113 = .ok (.invokevirtual 64, 3) := by decide +kernel
theorem d_Mo_node_116 : decode prog_8_method_9_code 116 = .ok (.ifCond .eq 16, 3) := by decide +kernel
theorem d_Mo_node_119 : decode prog_8_method_9_code 119 = .ok (.goto 9, 3) := by decide +kernel
theorem d_Mo_node_122 : decode prog_8_method_9_code 122 = .ok (.iload 4, 2) := by decide +kernel
theorem d_Mo_node_124 : decode prog_8_method_9_code 124 = .ok (.iconst (-1), 1) := by decide +kernel
theorem d_Mo_node_125 : decode prog_8_method_9_code 125 = .ok (.if_icmp .eq 7, 3) := by decide +kernel
theorem d_Mo_node_128 : decode prog_8_method_9_code 128 = .ok (.iconst 1, 1) := by decide +kernel
theorem d_Mo_node_129 : decode prog_8_method_9_code 129 = .ok (.goto 4, 3) := by decide +kernel
theorem d_Mo_node_132 : decode prog_8_method_9_code 132 = .ok (.iconst 0, 1) := by decide +kernel
theorem d_Mo_node_133 : decode prog_8_method_9_code 133 = .ok (.istore 8, 2) := by decide +kernel
theorem d_Mo_node_135 : decode prog_8_method_9_code 135 = .ok (.aload_n 0, 1) := by decide +kernel
theorem d_Mo_node_136 : decode prog_8_method_9_code 136 = .ok (.iload 8, 2) := by decide +kernel
theorem d_Mo_node_138 : decode prog_8_method_9_code 138 = .ok (.ifCond .eq 7, 3) := by decide +kernel
theorem d_Mo_node_141 : decode prog_8_method_9_code 141 = .ok (.iconst 1, 1) := by decide +kernel
theorem d_Mo_node_142 : decode prog_8_method_9_code 142 = .ok (.goto 17, 3) := by decide +kernel
theorem d_Mo_node_145 : decode prog_8_method_9_code 145 = .ok (.aload_n 0, 1) := by decide +kernel
theorem d_Mo_node_146 : decode prog_8_method_9_code 146 = .ok (.getfield 82, 3) := by decide +kernel
theorem d_Mo_node_149 : decode prog_8_method_9_code 149 = .ok (.bipush 14, 2) := by decide +kernel
theorem d_Mo_node_151 : decode prog_8_method_9_code 151 = .ok (.if_icmp .ne 7, 3) := by decide +kernel
theorem d_Mo_node_154 : decode prog_8_method_9_code 154 = .ok (.iconst 2, 1) := by decide +kernel
theorem d_Mo_node_155 : decode prog_8_method_9_code 155 = .ok (.goto 4, 3) := by decide +kernel
theorem d_Mo_node_158 : decode prog_8_method_9_code 158 = .ok (.iconst 0, 1) := by decide +kernel
theorem d_Mo_node_159 : decode prog_8_method_9_code 159 = .ok (.putfield 57, 3) := by decide +kernel
theorem d_Mo_node_162 : decode prog_8_method_9_code 162 = .ok (.aload_n 0, 1) := by decide +kernel
theorem d_Mo_node_163 : decode prog_8_method_9_code 163 = .ok (.getfield 57, 3) := by decide +kernel
theorem d_Mo_node_166 : decode prog_8_method_9_code 166 = .ok (.ifCond .eq 5, 3) := by decide +kernel
