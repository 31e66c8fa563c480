theorem d_Mo_product_34 : decode prog_8_method_24_code 34 = .ok (.daload, 1) := by decide +kernel
theorem d_Mo_product_35 : decode prog_8_method_24_code 35 = .ok (.aload_n 0, 1) := by decide +kernel
theorem d_Mo_product_36 : decode prog_8_method_24_code 36 = .ok (.getfield 25, 3) := by decide +kernel
theorem d_Mo_product_39 : decode prog_8_method_24_code 39 = .ok (.iload_n 2, 1) := by decide +kernel
theorem d_Mo_product_40 : decode prog_8_method_24_code 40 = .ok (.bipush 16, 2) := by decide +kernel
theorem d_Mo_product_42 : decode prog_8_method_24_code 42 = .ok (.imul, 1) := by decide +kernel
theorem d_Mo_product_43 : decode prog_8_method_24_code 43 = .ok (.iload 7, 2) := by decide +kernel
theorem d_Mo_product_45 : decode prog_8_method_24_code 45 = .ok (.iconst 4, 1) := by decide +kernel
theorem d_Mo_product_46 : decode prog_8_method_24_code 46 = .ok (.imul, 1) := by decide +kernel
theorem d_Mo_product_47 : decode prog_8_method_24_code 47 = .ok (.iadd, 1) := by decide +kernel
theorem d_Mo_product_48 : decode prog_8_method_24_code 48 = .ok (.iload 4, 2) := by decide +kernel
theorem d_Mo_product_50 : decode prog_8_method_24_code 50 = .ok (.iadd, 1) := by decide +kernel
theorem d_Mo_product_51 : decode prog_8_method_24_code 51 = .ok (.daload, 1) := by decide +kernel
theorem d_Mo_product_52 : decode prog_8_method_24_code 52 = .ok (.dmul, 1) := by decide +kernel
theorem d_Mo_product_53 : decode prog_8_method_24_code 53 = .ok (.dadd, 1) := by decide +kernel
theorem d_Mo_product_54 : decode prog_8_method_24_code 54 = .ok (.dstore 5, 2) := by decide +kernel
theorem d_Mo_product_56 : decode prog_8_method_24_code 56 = .ok (.iinc 7 1, 3) := by decide +kernel
theorem d_Mo_product_59 : decode prog_8_method_24_code 59 = .ok (.goto (-53), 3) := by decide +kernel
theorem d_Mo_product_62 : decode prog_8_method_24_code 62 = .ok (.dload 5, 2) := by decide +kernel
theorem d_Mo_product_64 : decode prog_8_method_24_code 64 = .ok (.dreturn, 1) := by decide +kernel
theorem d_Mo_cast_0 : decode prog_8_method_27_code 0 = .ok (.aload_n 0, 1) := by decide +kernel
theorem d_Mo_cast_1 : decode prog_8_method_27_code 1 = .ok (.getfield 35, 3) := by decide +kernel
theorem d_Mo_cast_4 : decode prog_8_method_27_code 4 = .ok (.iload_n 1, 1) := by decide +kernel
theorem d_Mo_cast_5 : decode prog_8_method_27_code 5 = .ok (.iaload, 1) := by decide +kernel
theorem d_Mo_cast_6 : decode prog_8_method_27_code 6 = .ok (.iconst 1, 1) := by decide +kernel
theorem d_Mo_cast_7 : decode prog_8_method_27_code 7 = .ok (.if_icmp .ne 9, 3) := by decide +kernel
theorem d_Mo_cast_10 : decode prog_8_method_27_code 10 = .ok (.dload_n 2, 1) := by decide +kernel
theorem d_Mo_cast_11 : decode prog_8_method_27_code 11 = .ok (.d2i, 1) := by decide +kernel
theorem d_Mo_cast_12 : decode prog_8_method_27_code 12 = .ok (.i2d, 1) := by decide +kernel
theorem d_Mo_cast_13 : decode prog_8_method_27_code 13 = .ok (.goto 4, 3) := by decide +kernel
theorem d_Mo_cast_16 : decode prog_8_method_27_code 16 = .ok (.dload_n 2, 1) := by decide +kernel
theorem d_Mo_cast_17 : decode prog_8_method_27_code 17 = .ok (.dreturn, 1) := by decide +kernel
theorem d_Mo_total_0 : decode prog_8_method_21_code 0 = .ok (.iload 4, 2) := by decide +kernel
theorem d_Mo_total_2 : decode prog_8_method_21_code 2 = .ok (.ifCond .eq 12, 3) := by decide +kernel
theorem d_Mo_total_5 : decode prog_8_method_21_code 5 = .ok (.aload_n 0, 1) := by decide +kernel
theorem d_Mo_total_6 : decode prog_8_method_21_code 6 = .ok (.getfield 16, 3) := by decide +kernel
theorem d_Mo_total_9 : decode prog_8_method_21_code 9 = .ok (.iload_n 1, 1) := by decide +kernel
theorem d_Mo_total_10 : decode prog_8_method_21_code 10 = .ok (.iaload, 1) := by decide +kernel
theorem d_Mo_total_11 : decode prog_8_method_21_code 11 = .ok (.goto 9, 3) := by decide +kernel
theorem d_Mo_total_14 : decode prog_8_method_21_code 14 = .ok (.aload_n 0, 1) := by decide +kernel
theorem d_Mo_total_15 : decode prog_8_method_21_code 15 = .ok (.getfield 19, 3) := by decide +kernel
theorem d_Mo_total_18 : decode prog_8_method_21_code 18 = .ok (.iload_n 1, 1) := by decide +kernel
theorem d_Mo_total_19 : decode prog_8_method_21_code 19 = .ok (.iaload, 1) := by decide +kernel
theorem d_Mo_total_20 : decode prog_8_method_21_code 20 = .ok (.istore 5, 2) := by decide +kernel
theorem d_Mo_total_22 : decode prog_8_method_21_code 22 = .ok (.dconst 0, 1) := by decide +kernel
theorem d_Mo_total_23 : decode prog_8_method_21_code 23 = .ok (.dstore 6, 2) := by decide +kernel
theorem d_Mo_total_25 : decode prog_8_method_21_code 25 = .ok (.iconst 0, 1) := by decide +kernel
theorem d_Mo_total_26 : decode prog_8_method_21_code 26 = .ok (.istore 8, 2) := by decide +kernel
theorem d_Mo_total_28 : decode prog_8_method_21_code 28 = .ok (.iload 8, 2) := by decide +kernel
theorem d_Mo_total_30 : decode prog_8_method_21_code 30 = .ok (.iload 5, 2) := by decide +kernel
theorem d_Mo_total_32 : decode prog_8_method_21_code 32 = .ok (.if_icmp .ge 65, 3) := by decide +kernel
theorem d_Mo_total_35 : decode prog_8_method_21_code 35 = .ok (.iload 4, 2) := by decide +kernel
theorem d_Mo_total_37 : decode prog_8_method_21_code 37 = .ok (.ifCond .eq 14, 3) := by decide +kernel
theorem d_Mo_total_40 : decode prog_8_method_21_code 40 = .ok (.aload_n 0, 1) := by decide +kernel
theorem d_Mo_total_41 : decode prog_8_method_21_code 41 = .ok (.iload_n 1, 1) := by decide +kernel
theorem d_Mo_total_42 : decode prog_8_method_21_code 42 = .ok (.iload 8, 2) := by decide +kernel
theorem d_Mo_total_44 : decode prog_8_method_21_code 44 = .ok (.iload_n 3, 1) := by decide +kernel
theorem d_Mo_total_45 : decode prog_8_method_21_code 45 = .ok (.invokevirtual 111, 3) := by decide +kernel
theorem d_Mo_total_48 : decode prog_8_method_21_code 48 = .ok (.goto 11, 3) := by decide +kernel
theorem d_Mo_total_51 : decode prog_8_method_21_code 51 = .ok (.aload_n 0, 1) := by decide +kernel
theorem d_Mo_total_52 : decode prog_8_method_21_code 52 = .ok (.iload_n 1, 1) := by decide +kernel
theorem d_Mo_total_53 : decode prog_8_method_21_code 53 = .ok (.iload_n 2, 1) := by decide +kernel
theorem d_Mo_total_54 : decode prog_8_method_21_code 54 = .ok (.iload 8, 2) := by decide +kernel
theorem d_Mo_total_56 : decode prog_8_method_21_code 56 = .ok (.invokevirtual 111, 3) := by decide +kernel
theorem d_Mo_total_59 : decode prog_8_method_21_code 59 = .ok (.dstore 9, 2) := by decide +kernel
theorem d_Mo_total_61 : decode prog_8_method_21_code 61 = .ok (.aload_n 0, 1) := by decide +kernel
theorem d_Mo_total_62 : decode prog_8_method_21_code 62 = .ok (.getfield 13, 3) := by decide +kernel
theorem d_Mo_total_65 : decode prog_8_method_21_code 65 = .ok (.iload_n 1, 1) := by decide +kernel
theorem d_Mo_total_66 : decode prog_8_method_21_code 66 = .ok (.iaload, 1) := by decide +kernel
theorem d_Mo_total_67 : decode prog_8_method_21_code 67 = .ok (.iconst 1, 1) := by decide +kernel
theorem d_Mo_total_68 : decode prog_8_method_21_code 68 = .ok (.if_icmp .ne 16, 3) := by decide +kernel
theorem d_Mo_total_71 : decode prog_8_method_21_code 71 = .ok (.dload 6, 2) := by decide +kernel
theorem d_Mo_total_73 : decode prog_8_method_21_code 73 = .ok (.d2i, 1) := by decide +kernel
theorem d_Mo_total_74 : decode prog_8_method_21_code 74 = .ok (.dload 9, 2) := by decide +kernel
theorem d_Mo_total_76 : decode prog_8_method_21_code 76 = .ok (.d2i, 1) := by decide +kernel
theorem d_Mo_total_77 : decode prog_8_method_21_code 77 = .ok (.iadd, 1) := by decide +kernel
theorem d_Mo_total_78 : decode prog_8_method_21_code 78 = .ok (.i2d, 1) := by decide +kernel
theorem d_Mo_total_79 : decode prog_8_method_21_code 79 = .ok (.dstore 6, 2) := by decide +kernel
theorem d_Mo_total_81 : decode prog_8_method_21_code 81 = .ok (.goto 10, 3) := by decide +kernel
theorem d_Mo_total_84 : decode prog_8_method_21_code 84 = .ok (.dload 6, 2) := by decide +kernel
theorem d_Mo_total_86 : decode prog_8_method_21_code 86 = .ok (.dload 9, 2) := by decide +kernel
theorem d_Mo_total_88 : decode prog_8_method_21_code 88 = .ok (.dadd, 1) := by decide +kernel
theorem d_Mo_total_89 : decode prog_8_method_21_code 89 = .ok (.dstore 6, 2) := by decide +kernel
theorem d_Mo_total_91 : decode prog_8_method_21_code 91 = .ok (.iinc 8 1, 3) := by decide +kernel
theorem d_Mo_total_94 : decode prog_8_method_21_code 94 = .ok (.goto (-66), 3) := by decide +kernel
theorem d_Mo_total_97 : decode prog_8_method_21_code 97 = .ok (.dload 6, 2) := by decide +kernel
theorem d_Mo_total_99 : decode prog_8_method_21_code 99 = .ok (.dreturn, 1) := by decide +kernel
theorem d_Mo_first_0 : decode prog_8_method_22_code 0 = .ok (.iload 4, 2) := by decide +kernel
theorem d_Mo_first_2 : decode prog_8_method_22_code 2 = .ok (.ifCond .eq 12, 3) := by decide +kernel
theorem d_Mo_first_5 : decode prog_8_method_22_code 5 = .ok (.aload_n 0, 1) := by decide +kernel
theorem d_Mo_first_6 : decode prog_8_method_22_code 6 = .ok (.getfield 16, 3) := by decide +kernel
theorem d_Mo_first_9 : decode prog_8_method_22_code 9 = .ok (.iload_n 1, 1) := by decide +kernel
theorem d_Mo_first_10 : decode prog_8_method_22_code 10 = .ok (.iaload, 1) := by decide +kernel
theorem d_Mo_first_11 : decode prog_8_method_22_code 11 = .ok (.goto 9, 3) := by decide +kernel
theorem d_Mo_first_14 : decode prog_8_method_22_code 14 = .ok (.aload_n 0, 1) := by decide +kernel
theorem d_Mo_first_15 : decode prog_8_method_22_code 15 = .ok (.getfield 19, 3) := by decide +kernel
theorem d_Mo_first_18 : decode prog_8_method_22_code 18 = .ok (.iload_n 1, 1) := by decide +kernel
theorem d_Mo_first_19 : decode prog_8_method_22_code 19 = .ok (.iaload, 1) := by decide +kernel
theorem d_Mo_first_20 : decode prog_8_method_22_code 20 = .ok (.istore 5, 2) := by decide +kernel
theorem d_Mo_first_22 : decode prog_8_method_22_code 22 = .ok (.iconst 0, 1) := by decide +kernel
theorem d_Mo_first_23 : decode prog_8_method_22_code 23 = .ok (.istore 6, 2) := by decide +kernel
theorem d_Mo_first_25 : decode prog_8_method_22_code 25 = .ok (.iconst 1, 1) := by decide +kernel
theorem d_Mo_first_26 : decode prog_8_method_22_code 26 = .ok (.istore 7, 2) := by decide +kernel
theorem d_Mo_first_28 : decode prog_8_method_22_code 28 = .ok (.iload 7, 2) := by decide +kernel
theorem d_Mo_first_30 : decode prog_8_method_22_code 30 = .ok (.iload 5, 2) := by decide +kernel
theorem d_Mo_first_32 : decode prog_8_method_22_code 32 = .ok (.if_icmp .ge 61, 3) := by decide +kernel
theorem d_Mo_first_35 : decode prog_8_method_22_code 35 = .ok (.iload 4, 2) := by decide +kernel
theorem d_Mo_first_37 : decode prog_8_method_22_code 37 = .ok (.ifCond .eq 26, 3) := by decide +kernel
theorem d_Mo_first_40 : decode prog_8_method_22_code 40 = .ok (.aload_n 0, 1) := by decide +kernel
theorem d_Mo_first_41 : decode prog_8_method_22_code 41 = .ok (.iload_n 1, 1) := by decide +kernel
theorem d_Mo_first_42 : decode prog_8_method_22_code 42 = .ok (.iload 7, 2) := by decide +kernel
theorem d_Mo_first_44 : decode prog_8_method_22_code 44 = .ok (.iload_n 3, 1) := by decide +kernel
theorem d_Mo_first_45 : decode prog_8_method_22_code 45 = .ok (.invokevirtual 111, 3) := by decide +kernel
theorem d_Mo_first_48 : decode prog_8_method_22_code 48 = .ok (.aload_n 0, 1) := by decide +kernel
theorem d_Mo_first_49 : decode prog_8_method_22_code 49 = .ok (.iload_n 1, 1) := by decide +kernel
theorem d_Mo_first_50 : decode prog_8_method_22_code 50 = .ok (.iload 6, 2) := by decide +kernel
theorem d_Mo_first_52 : decode prog_8_method_22_code 52 = .ok (.iload_n 3, 1) := by decide +kernel
theorem d_Mo_first_53 : decode prog_8_method_22_code 53 = .ok (.invokevirtual 111, 3) := by decide +kernel
theorem d_Mo_first_56 : decode prog_8_method_22_code 56 = .ok (.dcmp .l, 1) := by decide +kernel
theorem d_Mo_first_57 : decode prog_8_method_22_code 57 = .ok (.ifCond .le 30, 3) := by decide +kernel
theorem d_Mo_first_60 : decode prog_8_method_22_code 60 = .ok (.goto 23, 3) := by decide +kernel
theorem d_Mo_first_63 : decode prog_8_method_22_code 63 = .ok (.aload_n 0, 1) := by decide +kernel
theorem d_Mo_first_64 : decode prog_8_method_22_code 64 = .ok (.iload_n 1, 1) := by decide +kernel
theorem d_Mo_first_65 : decode prog_8_method_22_code 65 = .ok (.iload_n 2, 1) := by decide +kernel
theorem d_Mo_first_66 : decode prog_8_method_22_code 66 = .ok (.iload 7, 2) := by decide +kernel
theorem d_Mo_first_68 : decode prog_8_method_22_code 68 = .ok (.invokevirtual 111, 3) := by decide +kernel
theorem d_Mo_first_71 : decode prog_8_method_22_code 71 = .ok (.aload_n 0, 1) := by decide +kernel
theorem d_Mo_first_72 : decode prog_8_method_22_code 72 = .ok (.iload_n 1, 1) := by decide +kernel
theorem d_Mo_first_73 : decode prog_8_method_22_code 73 = .ok (.iload_n 2, 1) := by decide +kernel
theorem d_Mo_first_74 : decode prog_8_method_22_code 74 = .ok (.iload 6, 2) := by decide +kernel
theorem d_Mo_first_76 : decode prog_8_method_22_code 76 = .ok (.invokevirtual 111, 3) := by decide +kernel
theorem d_Mo_first_79 : decode prog_8_method_22_code 79 = .ok (.dcmp .l, 1) := by decide +kernel
theorem d_Mo_first_80 : decode prog_8_method_22_code 80 = .ok (.ifCond .le 7, 3) := by decide +kernel
theorem d_Mo_first_83 : decode prog_8_method_22_code 83 = .ok (.iload 7, 2) := by decide +kernel
theorem d_Mo_first_85 : decode prog_8_method_22_code 85 = .ok (.istore 6, 2) := by decide +kernel
theorem d_Mo_first_87 : decode prog_8_method_22_code 87 = .ok (.iinc 7 1, 3) := by decide +kernel
theorem d_Mo_first_90 : decode prog_8_method_22_code 90 = .ok (.goto (-62), 3) := by decide +kernel
theorem d_Mo_first_93 : decode prog_8_method_22_code 93 = .ok (.iload 6, 2) := by decide +kernel
theorem d_Mo_first_95 : decode prog_8_method_22_code 95 = .ok (.ireturn, 1) := by decide +kernel
theorem d_Mo_joined_0 : decode prog_8_method_26_code 0 = .ok (.aload_n 0, 1) := by decide +kernel
theorem d_Mo_joined_1 : decode prog_8_method_26_code 1 = .ok (.getfield 35, 3) := by decide +kernel
theorem d_Mo_joined_4 : decode prog_8_method_26_code 4 = .ok (.iload_n 1, 1) := by decide +kernel
theorem d_Mo_joined_5 : decode prog_8_method_26_code 5 = .ok (.iaload, 1) := by decide +kernel
theorem d_Mo_joined_6 : decode prog_8_method_26_code 6 = .ok (.ifCond .ne 59, 3) := by decide +kernel
theorem d_Mo_joined_9 : decode prog_8_method_26_code 9 = .ok (.iload 4, 2) := by decide +kernel
theorem d_Mo_joined_11 : decode prog_8_method_26_code 11 = .ok (.aload_n 0, 1) := by decide +kernel
theorem d_Mo_joined_12 : decode prog_8_method_26_code 12 = .ok (.getfield 16, 3) := by decide +kernel
theorem d_Mo_joined_15 : decode prog_8_method_26_code 15 = .ok (.iload_n 2, 1) := by decide +kernel
theorem d_Mo_joined_16 : decode prog_8_method_26_code 16 = .ok (.iaload, 1) := by decide +kernel
theorem d_Mo_joined_17 : decode prog_8_method_26_code 17 = .ok (.if_icmp .ge 23, 3) := by decide +kernel
theorem d_Mo_joined_20 : decode prog_8_method_26_code 20 = .ok (.aload_n 0, 1) := by decide +kernel
theorem d_Mo_joined_21 : decode prog_8_method_26_code 21 = .ok (.getfield 25, 3) := by decide +kernel
theorem d_Mo_joined_24 : decode prog_8_method_26_code 24 = .ok (.iload_n 2, 1) := by decide +kernel
theorem d_Mo_joined_25 : decode prog_8_method_26_code 25 = .ok (.bipush 16, 2) := by decide +kernel
theorem d_Mo_joined_27 : decode prog_8_method_26_code 27 = .ok (.imul, 1) := by decide +kernel
theorem d_Mo_joined_28 : decode prog_8_method_26_code 28 = .ok (.iload 4, 2) := by decide +kernel
theorem d_Mo_joined_30 : decode prog_8_method_26_code 30 = .ok (.iconst 4, 1) := by decide +kernel
theorem d_Mo_joined_31 : decode prog_8_method_26_code 31 = .ok (.imul, 1) := by decide +kernel
theorem d_Mo_joined_32 : decode prog_8_method_26_code 32 = .ok (.iadd, 1) := by decide +kernel
theorem d_Mo_joined_33 : decode prog_8_method_26_code 33 = .ok (.iload 5, 2) := by decide +kernel
theorem d_Mo_joined_35 : decode prog_8_method_26_code 35 = .ok (.iadd, 1) := by decide +kernel
theorem d_Mo_joined_36 : decode prog_8_method_26_code 36 = .ok (.daload, 1) := by decide +kernel
theorem d_Mo_joined_37 : decode prog_8_method_26_code 37 = .ok (.goto 27, 3) := by decide +kernel
theorem d_Mo_joined_40 : decode prog_8_method_26_code 40 = .ok (.aload_n 0, 1) := by decide +kernel
theorem d_Mo_joined_41 : decode prog_8_method_26_code 41 = .ok (.getfield 25, 3) := by decide +kernel
theorem d_Mo_joined_44 : decode prog_8_method_26_code 44 = .ok (.iload_n 3, 1) := by decide +kernel
theorem d_Mo_joined_45 : decode prog_8_method_26_code 45 = .ok (.bipush 16, 2) := by decide +kernel
theorem d_Mo_joined_47 : decode prog_8_method_26_code 47 = .ok (.imul, 1) := by decide +kernel
theorem d_Mo_joined_48 : decode prog_8_method_26_code 48 = .ok (.iload 4, 2) := by decide +kernel
theorem d_Mo_joined_50 : decode prog_8_method_26_code 50 = .ok (.aload_n 0, 1) := by decide +kernel
theorem d_Mo_joined_51 : decode prog_8_method_26_code 51 = .ok (.getfield 16, 3) := by decide +kernel
theorem d_Mo_joined_54 : decode prog_8_method_26_code 54 = .ok (.iload_n 2, 1) := by decide +kernel
theorem d_Mo_joined_55 : decode prog_8_method_26_code 55 = .ok (.iaload, 1) := by decide +kernel
theorem d_Mo_joined_56 : decode prog_8_method_26_code 56 = .ok (.isub, 1) := by decide +kernel
theorem d_Mo_joined_57 : decode prog_8_method_26_code 57 = .ok (.iconst 4, 1) := by decide +kernel
theorem d_Mo_joined_58 : decode prog_8_method_26_code 58 = .ok (.imul, 1) := by decide +kernel
theorem d_Mo_joined_59 : decode prog_8_method_26_code 59 = .ok (.iadd, 1) := by decide +kernel
theorem d_Mo_joined_60 : decode prog_8_method_26_code 60 = .ok (.iload 5, 2) := by decide +kernel
theorem d_Mo_joined_62 : decode prog_8_method_26_code 62 = .ok (.iadd, 1) := by decide +kernel
theorem d_Mo_joined_63 : decode prog_8_method_26_code 63 = .ok (.daload, 1) := by decide +kernel
theorem d_Mo_joined_64 : decode prog_8_method_26_code 64 = .ok (.dreturn, 1) := by decide +kernel
theorem d_Mo_joined_65 : decode prog_8_method_26_code 65 = .ok (.iload 5, 2) := by decide +kernel
theorem d_Mo_joined_67 : decode prog_8_method_26_code 67 = .ok (.aload_n 0, 1) := by decide +kernel
theorem d_Mo_joined_68 : decode prog_8_method_26_code 68 = .ok (.getfield 19, 3) := by decide +kernel
theorem d_Mo_joined_71 : decode prog_8_method_26_code 71 = .ok (.iload_n 2, 1) := by decide +kernel
theorem d_Mo_joined_72 : decode prog_8_method_26_code 72 = .ok (.iaload, 1) := by decide +kernel
theorem d_Mo_joined_73 : decode prog_8_method_26_code 73 = .ok (.if_icmp .ge 23, 3) := by decide +kernel
theorem d_Mo_joined_76 : decode prog_8_method_26_code 76 = .ok (.aload_n 0, 1) := by decide +kernel
theorem d_Mo_joined_77 : decode prog_8_method_26_code 77 = .ok (.getfield 25, 3) := by decide +kernel
theorem d_Mo_joined_80 : decode prog_8_method_26_code 80 = .ok (.iload_n 2, 1) := by decide +kernel
theorem d_Mo_joined_81 : decode prog_8_method_26_code 81 = .ok (.bipush 16, 2) := by decide +kernel
theorem d_Mo_joined_83 : decode prog_8_method_26_code 83 = .ok (.imul, 1) := by decide +kernel
theorem d_Mo_joined_84 : decode prog_8_method_26_code 84 = .ok (.iload 4, 2) := by decide +kernel
theorem d_Mo_joined_86 : decode prog_8_method_26_code 86 = .ok (.iconst 4, 1) := by decide +kernel
theorem d_Mo_joined_87 : decode prog_8_method_26_code 87 = .ok (.imul, 1) := by decide +kernel
theorem d_Mo_joined_88 : decode prog_8_method_26_code 88 = .ok (.iadd, 1) := by decide +kernel
theorem d_Mo_joined_89 : decode prog_8_method_26_code 89 = .ok (.iload 5, 2) := by decide +kernel
theorem d_Mo_joined_91 : decode prog_8_method_26_code 91 = .ok (.iadd, 1) := by decide +kernel
theorem d_Mo_joined_92 : decode prog_8_method_26_code 92 = .ok (.daload, 1) := by decide +kernel
theorem d_Mo_joined_93 : decode prog_8_method_26_code 93 = .ok (.goto 27, 3) := by decide +kernel
theorem d_Mo_joined_96 : decode prog_8_method_26_code 96 = .ok (.aload_n 0, 1) := by decide +kernel
theorem d_Mo_joined_97 : decode prog_8_method_26_code 97 = .ok (.getfield 25, 3) := by decide +kernel
theorem d_Mo_joined_100 : decode prog_8_method_26_code 100 = .ok (.iload_n 3, 1) := by decide +kernel
theorem d_Mo_joined_101 : decode prog_8_method_26_code 101 = .ok (.bipush 16, 2) := by decide +kernel
theorem d_Mo_joined_103 : decode prog_8_method_26_code 103 = .ok (.imul, 1) := by decide +kernel
theorem d_Mo_joined_104 : decode prog_8_method_26_code 104 = .ok (.iload 4, 2) := by decide +kernel
theorem d_Mo_joined_106 : decode prog_8_method_26_code 106 = .ok (.iconst 4, 1) := by decide +kernel
theorem d_Mo_joined_107 : decode prog_8_method_26_code 107 = .ok (.imul, 1) := by decide +kernel
theorem d_Mo_joined_108 : decode prog_8_method_26_code 108 = .ok (.iadd, 1) := by decide +kernel
theorem d_Mo_joined_109 : decode prog_8_method_26_code 109 = .ok (.iload 5, 2) := by decide +kernel
theorem d_Mo_joined_111 : decode prog_8_method_26_code 111 = .ok (.iadd, 1) := by decide +kernel
theorem d_Mo_joined_112 : decode prog_8_method_26_code 112 = .ok (.aload_n 0, 1) := by decide +kernel
theorem d_Mo_joined_113 : decode prog_8_method_26_code 113 = .ok (.getfield 19, 3) := by decide +kernel
theorem d_Mo_joined_116 : decode prog_8_method_26_code 116 = .ok (.iload_n 2, 1) := by decide +kernel
theorem d_Mo_joined_117 : decode prog_8_method_26_code 117 = .ok (.iaload, 1) := by decide +kernel
theorem d_Mo_joined_118 : decode prog_8_method_26_code 118 = .ok (.isub, 1) := by decide +kernel
theorem d_Mo_joined_119 : decode prog_8_method_26_code 119 = .ok (.daload, 1) := by decide +kernel
theorem d_Mo_joined_120 : decode prog_8_method_26_code 120 = .ok (.dreturn, 1) := by decide +kernel
theorem d_Mo_picked_0 : decode prog_8_method_25_code 0 = .ok (.aload_n 0, 1) := by decide +kernel
theorem d_Mo_picked_1 : decode prog_8_method_25_code 1 = .ok (.getfield 25, 3) := by decide +kernel
theorem d_Mo_picked_4 : decode prog_8_method_25_code 4 = .ok (.iload_n 2, 1) := by decide +kernel
theorem d_Mo_picked_5 : decode prog_8_method_25_code 5 = .ok (.bipush 16, 2) := by decide +kernel
theorem d_Mo_picked_7 : decode prog_8_method_25_code 7 = .ok (.imul, 1) := by decide +kernel
theorem d_Mo_picked_8 : decode prog_8_method_25_code 8 = .ok (.iload_n 3, 1) := by decide +kernel
theorem d_Mo_picked_9 : decode prog_8_method_25_code 9 = .ok (.iadd, 1) := by decide +kernel
theorem d_Mo_picked_10 : decode prog_8_method_25_code 10 = .ok (.daload, 1) := by decide +kernel
theorem d_Mo_picked_11 : decode prog_8_method_25_code 11 = .ok (.d2i, 1) := by decide +kernel
theorem d_Mo_picked_12 : decode prog_8_method_25_code 12 = .ok (.istore 5, 2) := by decide +kernel
theorem d_Mo_picked_14 : decode prog_8_method_25_code 14 = .ok (.iload 5, 2) := by decide +kernel
theorem d_Mo_picked_16 : decode prog_8_method_25_code 16 = .ok (.ifCond .ge 14, 3) := by decide +kernel
theorem d_Mo_picked_19 : decode prog_8_method_25_code 19 = .ok (.iload 5, 2) := by decide +kernel
theorem d_Mo_picked_21 : decode prog_8_method_25_code 21 = .ok (.aload_n 0, 1) := by decide +kernel
theorem d_Mo_picked_22 : decode prog_8_method_25_code 22 = .ok (.getfield 16, 3) := by decide +kernel
theorem d_Mo_picked_25 : decode prog_8_method_25_code 25 = .ok (.iload_n 1, 1) := by decide +kernel
theorem d_Mo_picked_26 : decode prog_8_method_25_code 26 = .ok (.iaload, 1) := by decide +kernel
theorem d_Mo_picked_27 : decode prog_8_method_25_code 27 = .ok (.iadd, 1) := by decide +kernel
theorem d_Mo_picked_28 : decode prog_8_method_25_code 28 = .ok (.istore 5, 2) := by decide +kernel
theorem d_Mo_picked_30 : decode prog_8_method_25_code 30 = .ok (.iload 5, 2) := by decide +kernel
theorem d_Mo_picked_32 : decode prog_8_method_25_code 32 = .ok (.ifCond .lt 14, 3) := by decide +kernel
theorem d_Mo_picked_35 : decode prog_8_method_25_code 35 = .ok (.iload 5, 2) := by decide +kernel
theorem d_Mo_picked_37 : decode prog_8_method_25_code 37 = .ok (.aload_n 0, 1) := by decide +kernel
theorem d_Mo_picked_38 : decode prog_8_method_25_code 38 = .ok (.getfield 16, 3) := by decide +kernel
theorem d_Mo_picked_41 : decode prog_8_method_25_code 41 = .ok (.iload_n 1, 1) := by decide +kernel
theorem d_Mo_picked_42 : decode prog_8_method_25_code 42 = .ok (.iaload, 1) := by decide +kernel
theorem d_Mo_picked_43 : decode prog_8_method_25_code 43 = .ok (.if_icmp .lt 10, 3) := by decide +kernel
theorem d_Mo_picked_46 : decode prog_8_method_25_code 46 = .ok (.aload_n 0, 1) := by decide +kernel
theorem d_Mo_picked_47 : decode prog_8_method_25_code 47 = .ok (.iconst 4, 1) := by decide +kernel
theorem d_Mo_picked_48 : decode prog_8_method_25_code 48 = .ok (.invokevirtual 104, 3) := by decide +kernel
theorem d_Mo_picked_51 : decode prog_8_method_25_code 51 = .ok (.dconst 0, 1) := by decide +kernel
theorem d_Mo_picked_52 : decode prog_8_method_25_code 52 = .ok (.dreturn, 1) := by decide +kernel
theorem d_Mo_picked_53 : decode prog_8_method_25_code 53 = .ok (.aload_n 0, 1) := by decide +kernel
theorem d_Mo_picked_54 : decode prog_8_method_25_code 54 = .ok (.getfield 25, 3) := by decide +kernel
theorem d_Mo_picked_57 : decode prog_8_method_25_code 57 = .ok (.iload_n 1, 1) := by decide +kernel
theorem d_Mo_picked_58 : decode prog_8_method_25_code 58 = .ok (.bipush 16, 2) := by decide +kernel
theorem d_Mo_picked_60 : decode prog_8_method_25_code 60 = .ok (.imul, 1) := by decide +kernel
theorem d_Mo_picked_61 : decode prog_8_method_25_code 61 = .ok (.iload 5, 2) := by decide +kernel
theorem d_Mo_picked_63 : decode prog_8_method_25_code 63 = .ok (.iconst 4, 1) := by decide +kernel
theorem d_Mo_picked_64 : decode prog_8_method_25_code 64 = .ok (.imul, 1) := by decide +kernel
theorem d_Mo_picked_65 : decode prog_8_method_25_code 65 = .ok (.iadd, 1) := by decide +kernel
theorem d_Mo_picked_66 : decode prog_8_method_25_code 66 = .ok (.iload 4, 2) := by decide +kernel
theorem d_Mo_picked_68 : decode prog_8_method_25_code 68 = .ok (.iadd, 1) := by decide +kernel
theorem d_Mo_picked_69 : decode prog_8_method_25_code 69 = .ok (.daload, 1) := by decide +kernel
theorem d_Mo_picked_70 : decode prog_8_method_25_code 70 = .ok (.dreturn, 1) := by decide +kernel
theorem d_Mo_slid_0 : decode prog_8_method_23_code 0 = .ok (.dconst 0, 1) := by decide +kernel
theorem d_Mo_slid_1 : decode prog_8_method_23_code 1 = .ok (.dstore 6, 2) := by decide +kernel
theorem d_Mo_slid_3 : decode prog_8_method_23_code 3 = .ok (.iconst 0, 1) := by decide +kernel
theorem d_Mo_slid_4 : decode prog_8_method_23_code 4 = .ok (.istore 8, 2) := by decide +kernel
theorem d_Mo_slid_6 : decode prog_8_method_23_code 6 = .ok (.iload 8, 2) := by decide +kernel
theorem d_Mo_slid_8 : decode prog_8_method_23_code 8 = .ok (.aload_n 0, 1) := by decide +kernel
theorem d_Mo_slid_9 : decode prog_8_method_23_code 9 = .ok (.getfield 19, 3) := by decide +kernel
theorem d_Mo_slid_12 : decode prog_8_method_23_code 12 = .ok (.iload_n 3, 1) := by decide +kernel
theorem d_Mo_slid_13 : decode prog_8_method_23_code 13 = .ok (.iaload, 1) := by decide +kernel
theorem d_Mo_slid_14 : decode prog_8_method_23_code 14 = .ok (.if_icmp .ge 77, 3) := by decide +kernel
theorem d_Mo_slid_17 : decode prog_8_method_23_code 17 = .ok (.iload 5, 2) := by decide +kernel
theorem d_Mo_slid_19 : decode prog_8_method_23_code 19 = .ok (.aload_n 0, 1) := by decide +kernel
theorem d_Mo_slid_20 : decode prog_8_method_23_code 20 = .ok (.getfield 35, 3) := by decide +kernel
theorem d_Mo_slid_23 : decode prog_8_method_23_code 23 = .ok (.iload_n 1, 1) := by decide +kernel
theorem d_Mo_slid_24 : decode prog_8_method_23_code 24 = .ok (.iaload, 1) := by decide +kernel
theorem d_Mo_slid_25 : decode prog_8_method_23_code 25 = .ok (.imul, 1) := by decide +kernel
theorem d_Mo_slid_26 : decode prog_8_method_23_code 26 = .ok (.iload 8, 2) := by decide +kernel
theorem d_Mo_slid_28 : decode prog_8_method_23_code 28 = .ok (.iadd, 1) := by decide +kernel
theorem d_Mo_slid_29 : decode prog_8_method_23_code 29 = .ok (.aload_n 0, 1) := by decide +kernel
theorem d_Mo_slid_30 : decode prog_8_method_23_code 30 = .ok (.getfield 38, 3) := by decide +kernel
theorem d_Mo_slid_33 : decode prog_8_method_23_code 33 = .ok (.iload_n 1, 1) := by decide +kernel
theorem d_Mo_slid_34 : decode prog_8_method_23_code 34 = .ok (.iaload, 1) := by decide +kernel
theorem d_Mo_slid_35 : decode prog_8_method_23_code 35 = .ok (.isub, 1) := by decide +kernel
theorem d_Mo_slid_36 : decode prog_8_method_23_code 36 = .ok (.istore 9, 2) := by decide +kernel
theorem d_Mo_slid_38 : decode prog_8_method_23_code 38 = .ok (.iload 9, 2) := by decide +kernel
theorem d_Mo_slid_40 : decode prog_8_method_23_code 40 = .ok (.ifCond .lt 14, 3) := by decide +kernel
theorem d_Mo_slid_43 : decode prog_8_method_23_code 43 = .ok (.iload 9, 2) := by decide +kernel
theorem d_Mo_slid_45 : decode prog_8_method_23_code 45 = .ok (.aload_n 0, 1) := by decide +kernel
theorem d_Mo_slid_46 : decode prog_8_method_23_code 46 = .ok (.getfield 19, 3) := by decide +kernel
theorem d_Mo_slid_49 : decode prog_8_method_23_code 49 = .ok (.iload_n 2, 1) := by decide +kernel
theorem d_Mo_slid_50 : decode prog_8_method_23_code 50 = .ok (.iaload, 1) := by decide +kernel
theorem d_Mo_slid_51 : decode prog_8_method_23_code 51 = .ok (.if_icmp .lt 7, 3) := by decide +kernel
theorem d_Mo_slid_54 : decode prog_8_method_23_code 54 = .ok (.dconst 0, 1) := by decide +kernel
theorem d_Mo_slid_55 : decode prog_8_method_23_code 55 = .ok (.goto 12, 3) := by decide +kernel
theorem d_Mo_slid_58 : decode prog_8_method_23_code 58 = .ok (.aload_n 0, 1) := by decide +kernel
theorem d_Mo_slid_59 : decode prog_8_method_23_code 59 = .ok (.iload_n 2, 1) := by decide +kernel
theorem d_Mo_slid_60 : decode prog_8_method_23_code 60 = .ok (.iload 4, 2) := by decide +kernel
theorem d_Mo_slid_62 : decode prog_8_method_23_code 62 = .ok (.iload 9, 2) := by decide +kernel
theorem d_Mo_slid_64 : decode prog_8_method_23_code 64 = .ok (.invokevirtual 111, 3) := by decide +kernel
theorem d_Mo_slid_67 : decode prog_8_method_23_code 67 = .ok (.dstore 10, 2) := by decide +kernel
theorem d_Mo_slid_69 : decode prog_8_method_23_code 69 = .ok (.dload 6, 2) := by decide +kernel
theorem d_Mo_slid_71 : decode prog_8_method_23_code 71 = .ok (.dload 10, 2) := by decide +kernel
theorem d_Mo_slid_73 : decode prog_8_method_23_code 73 = .ok (.aload_n 0, 1) := by decide +kernel
theorem d_Mo_slid_74 : decode prog_8_method_23_code 74 = .ok (.iload_n 3, 1) := by decide +kernel
theorem d_Mo_slid_75 : decode prog_8_method_23_code 75 = .ok (.iconst 0, 1) := by decide +kernel
theorem d_Mo_slid_76 : decode prog_8_method_23_code 76 = .ok (.iload 8, 2) := by decide +kernel
theorem d_Mo_slid_78 : decode prog_8_method_23_code 78 = .ok (.invokevirtual 111, 3) := by decide +kernel
theorem d_Mo_slid_81 : decode prog_8_method_23_code 81 = .ok (.dmul, 1) := by decide +kernel
theorem d_Mo_slid_82 : decode prog_8_method_23_code 82 = .ok (.dadd, 1) := by decide +kernel
theorem d_Mo_slid_83 : decode prog_8_method_23_code 83 = .ok (.dstore 6, 2) := by decide +kernel
theorem d_Mo_slid_85 : decode prog_8_method_23_code 85 = .ok (.iinc 8 1, 3) := by decide +kernel
theorem d_Mo_slid_88 : decode prog_8_method_23_code 88 = .ok (.goto (-82), 3) := by decide +kernel
theorem d_Mo_slid_91 : decode prog_8_method_23_code 91 = .ok (.dload 6, 2) := by decide +kernel
theorem d_Mo_slid_93 : decode prog_8_method_23_code 93 = .ok (.dreturn, 1) := by decide +kernel
theorem d_Mo_bounded_0 : decode prog_8_method_28_code 0 = .ok (.dload_n 2, 1) := by decide +kernel
theorem d_Mo_bounded_1 : decode prog_8_method_28_code 1 = .ok (.aload_n 0, 1) := by decide +kernel
theorem d_Mo_bounded_2 : decode prog_8_method_28_code 2 = .ok (.getfield 35, 3) := by decide +kernel
theorem d_Mo_bounded_5 : decode prog_8_method_28_code 5 = .ok (.iload_n 1, 1) := by decide +kernel
theorem d_Mo_bounded_6 : decode prog_8_method_28_code 6 = .ok (.iaload, 1) := by decide +kernel
theorem d_Mo_bounded_7 : decode prog_8_method_28_code 7 = .ok (.i2d, 1) := by decide +kernel
theorem d_Mo_bounded_8 : decode prog_8_method_28_code 8 = .ok (.dcmp .g, 1) := by decide +kernel
theorem d_Mo_bounded_9 : decode prog_8_method_28_code 9 = .ok (.ifCond .ge 13, 3) := by decide +kernel
theorem d_Mo_bounded_12 : decode prog_8_method_28_code 12 = .ok (.aload_n 0, 1) := by decide +kernel
theorem d_Mo_bounded_13 : decode prog_8_method_28_code 13 = .ok (.getfield 35, 3) := by decide +kernel
theorem d_Mo_bounded_16 : decode prog_8_method_28_code 16 = .ok (.iload_n 1, 1) := by decide +kernel
theorem d_Mo_bounded_17 : decode prog_8_method_28_code 17 = .ok (.iaload, 1) := by decide +kernel
theorem d_Mo_bounded_18 : decode prog_8_method_28_code 18 = .ok (.i2d, 1) := by decide +kernel
theorem d_Mo_bounded_19 : decode prog_8_method_28_code 19 = .ok (.goto 26, 3) := by decide +kernel
theorem d_Mo_bounded_22 : decode prog_8_method_28_code 22 = .ok (.dload_n 2, 1) := by decide +kernel
theorem d_Mo_bounded_23 : decode prog_8_method_28_code 23 = .ok (.aload_n 0, 1) := by decide +kernel
theorem d_Mo_bounded_24 : decode prog_8_method_28_code 24 = .ok (.getfield 38, 3) := by decide +kernel
theorem d_Mo_bounded_27 : decode prog_8_method_28_code 27 = .ok (.iload_n 1, 1) := by decide +kernel
theorem d_Mo_bounded_28 : decode prog_8_method_28_code 28 = .ok (.iaload, 1) := by decide +kernel
theorem d_Mo_bounded_29 : decode prog_8_method_28_code 29 = .ok (.i2d, 1) := by decide +kernel
theorem d_Mo_bounded_30 : decode prog_8_method_28_code 30 = .ok (.dcmp .l, 1) := by decide +kernel
theorem d_Mo_bounded_31 : decode prog_8_method_28_code 31 = .ok (.ifCond .le 13, 3) := by decide +kernel
theorem d_Mo_bounded_34 : decode prog_8_method_28_code 34 = .ok (.aload_n 0, 1) := by decide +kernel
theorem d_Mo_bounded_35 : decode prog_8_method_28_code 35 = .ok (.getfield 38, 3) := by decide +kernel
theorem d_Mo_bounded_38 : decode prog_8_method_28_code 38 = .ok (.iload_n 1, 1) := by decide +kernel
theorem d_Mo_bounded_39 : decode prog_8_method_28_code 39 = .ok (.iaload, 1) := by decide +kernel
theorem d_Mo_bounded_40 : decode prog_8_method_28_code 40 = .ok (.i2d, 1) := by decide +kernel
theorem d_Mo_bounded_41 : decode prog_8_method_28_code 41 = .ok (.goto 4, 3) := by decide +kernel
theorem d_Mo_bounded_44 : decode prog_8_method_28_code 44 = .ok (.dload_n 2, 1) := by decide +kernel
theorem d_Mo_bounded_45 : decode prog_8_method_28_code 45 = .ok (.dreturn, 1) := by decide +kernel
theorem d_Mo_run_0 : decode prog_8_method_35_code 0 = .ok (.aload_n 0, 1) := by decide +kernel
theorem d_Mo_run_1 : decode prog_8_method_35_code 1 = .ok (.aload_n 0, 1) := by decide +kernel
theorem d_Mo_run_2 : decode prog_8_method_35_code 2 = .ok (.iload_n 1, 1) := by decide +kernel
theorem d_Mo_run_3 : decode prog_8_method_35_code 3 = .ok (.invokevirtual 64, 3) := by decide +kernel
theorem d_Mo_run_6 : decode prog_8_method_35_code 6 = .ok (.ifCond .ne 12, 3) := by decide +kernel
theorem d_Mo_run_9 : decode prog_8_method_35_code 9 = .ok (.aload_n 0, 1) := by decide +kernel
theorem d_Mo_run_10 : decode prog_8_method_35_code 10 = .ok (.getfield 7, 3) := by decide +kernel
theorem d_Mo_run_13 : decode prog_8_method_35_code 13 = .ok (.iload_n 1, 1) := by decide +kernel
theorem d_Mo_run_14 : decode prog_8_method_35_code 14 = .ok (.iaload, 1) := by decide +kernel
theorem d_Mo_run_15 : decode prog_8_method_35_code 15 = .ok (.ifCond .ne 7, 3) := by decide +kernel
theorem d_Mo_run_18 : decode prog_8_method_35_code 18 = .ok (.iconst 1, 1) := by decide +kernel
theorem d_Mo_run_19 : decode prog_8_method_35_code 19 = .ok (.goto 15, 3) := by decide +kernel
theorem d_Mo_run_22 : decode prog_8_method_35_code 22 = .ok (.aload_n 0, 1) := by decide +kernel
theorem d_Mo_run_23 : decode prog_8_method_35_code 23 = .ok (.getfield 53, 3) := by decide +kernel
theorem d_Mo_run_26 : decode prog_8_method_35_code 26 = .ok (.ifCond .ne 7, 3) := by decide +kernel
theorem d_Mo_run_29 : decode prog_8_method_35_code 29 = .ok (.iconst 2, 1) := by decide +kernel
theorem d_Mo_run_30 : decode prog_8_method_35_code 30 = .ok (.goto 4, 3) := by decide +kernel
theorem d_Mo_run_33 : decode prog_8_method_35_code 33 = .ok (.iconst 0, 1) := by decide +kernel
theorem d_Mo_run_34 : decode prog_8_method_35_code 34 = .ok (.putfield 57, 3) := by decide +kernel
theorem d_Mo_run_37 : decode prog_8_method_35_code 37 = .ok (.aload_n 0, 1) := by decide +kernel
theorem d_Mo_run_38 : decode prog_8_method_35_code 38 = .ok (.getfield 57, 3) := by decide +kernel
theorem d_Mo_run_41 : decode prog_8_method_35_code 41 = .ok (.ifCond .eq 5, 3) := by decide +kernel
theorem d_Mo_run_44 : decode prog_8_method_35_code 44 = .ok (.iconst 0, 1) := by decide +kernel
theorem d_Mo_run_45 : decode prog_8_method_35_code 45 = .ok (.ireturn, 1) := by decide +kernel
theorem d_Mo_run_46 : decode prog_8_method_35_code 46 = .ok (.aload_n 0, 1) := by decide +kernel
theorem d_Mo_run_47 : decode prog_8_method_35_code 47 = .ok (.iload_n 1, 1) := by decide +kernel
theorem d_Mo_run_48 : decode prog_8_method_35_code 48 = .ok (.invokevirtual 177, 3) := by decide +kernel
theorem d_Mo_run_51 : decode prog_8_method_35_code 51 = .ok (.istore_n 2, 1) := by decide +kernel
theorem d_Mo_run_52 : decode prog_8_method_35_code 52 = .ok (.aload_n 0, 1) := by decide +kernel
theorem d_Mo_run_53 : decode prog_8_method_35_code 53 = .ok (.getfield 57, 3) := by decide +kernel
theorem d_Mo_run_56 : decode prog_8_method_35_code 56 = .ok (.ifCond .ne 7, 3) := by decide +kernel
theorem d_Mo_run_59 : decode prog_8_method_35_code 59 = .ok (.iload_n 2, 1) := by decide +kernel
theorem d_Mo_run_60 : decode prog_8_method_35_code 60 = .ok (.goto 4, 3) := by decide +kernel
theorem d_Mo_run_63 : decode prog_8_method_35_code 63 = .ok (.iconst 0, 1) := by decide +kernel
theorem d_Mo_run_64 : decode prog_8_method_35_code 64 = .ok (.ireturn, 1) := by decide +kernel
theorem d_Mo_need_0 : decode prog_8_method_34_code 0 = .ok (.iconst 0, 1) := by decide +kernel
theorem d_Mo_need_1 : decode prog_8_method_34_code 1 = .ok (.istore_n 2, 1) := by decide +kernel
theorem d_Mo_need_2 : decode prog_8_method_34_code 2 = .ok (.aload_n 0, 1) := by decide +kernel
theorem d_Mo_need_3 : decode prog_8_method_34_code 3 = .ok (.getfield 57, 3) := by decide +kernel
theorem d_Mo_need_6 : decode prog_8_method_34_code 6 = .ok (.ifCond .ne 92, 3) := by decide +kernel
theorem d_Mo_need_9 : decode prog_8_method_34_code 9 = .ok (.aload_n 0, 1) := by decide +kernel
theorem d_Mo_need_10 : decode prog_8_method_34_code 10 = .ok (.iload_n 1, 1) := by decide +kernel
theorem d_Mo_need_11 : decode prog_8_method_34_code 11 = .ok (.invokevirtual 165, 3) := by decide +kernel
theorem d_Mo_need_14 : decode prog_8_method_34_code 14 = .ok (.ifCond .ne 84, 3) := by decide +kernel
theorem d_Mo_need_17 : decode prog_8_method_34_code 17 = .ok (.aload_n 0, 1) := by decide +kernel
theorem d_Mo_need_18 : decode prog_8_method_34_code 18 = .ok (.getfield 22, 3) := by decide +kernel
theorem d_Mo_need_21 : decode prog_8_method_34_code 21 = .ok (.iload_n 1, 1) := by decide +kernel
theorem d_Mo_need_22 : decode prog_8_method_34_code 22 = .ok (.iaload, 1) := by decide +kernel
theorem d_Mo_need_23 : decode prog_8_method_34_code 23 = .ok (.istore_n 3, 1) := by decide +kernel
theorem d_Mo_need_24 : decode prog_8_method_34_code 24 = .ok (.aload_n 0, 1) := by decide +kernel
theorem d_Mo_need_25 : decode prog_8_method_34_code 25 = .ok (.iload_n 3, 1) := by decide +kernel
theorem d_Mo_need_26 : decode prog_8_method_34_code 26 = .ok (.invokevirtual 168, 3) := by decide +kernel
theorem d_Mo_need_29 : decode prog_8_method_34_code 29 = .ok (.ifCond .lt 17, 3) := by decide +kernel
theorem d_Mo_need_32 : decode prog_8_method_34_code 32 = .ok (.aload_n 0, 1) := by decide +kernel
theorem d_Mo_need_33 : decode prog_8_method_34_code 33 = .ok (.getfield 22, 3) := by decide +kernel
theorem d_Mo_need_36 : decode prog_8_method_34_code 36 = .ok (.aload_n 0, 1) := by decide +kernel
theorem d_Mo_need_37 : decode prog_8_method_34_code 37 = .ok (.iload_n 3, 1) := by decide +kernel
theorem d_Mo_need_38 : decode prog_8_method_34_code 38 = .ok (.invokevirtual 168, 3) := by decide +kernel
theorem d_Mo_need_41 : decode prog_8_method_34_code 41 = .ok (.iaload, 1) := by decide +kernel
theorem d_Mo_need_42 : decode prog_8_method_34_code 42 = .ok (.istore_n 3, 1) := by decide +kernel
theorem d_Mo_need_43 : decode prog_8_method_34_code 43 = .ok (.goto (-19), 3) := by decide +kernel
theorem d_Mo_need_46 : decode prog_8_method_34_code 46 = .ok (.aload_n 0, 1) := by decide +kernel
theorem d_Mo_need_47 : decode prog_8_method_34_code 47 = .ok (.aload_n 0, 1) := by decide +kernel
theorem d_Mo_need_48 : decode prog_8_method_34_code 48 = .ok (.iload_n 3, 1) := by decide +kernel
theorem d_Mo_need_49 : decode prog_8_method_34_code 49 = .ok (.invokevirtual 162, 3) := by decide +kernel
theorem d_Mo_need_52 : decode prog_8_method_34_code 52 = .ok (.putfield 57, 3) := by decide +kernel
theorem d_Mo_need_55 : decode prog_8_method_34_code 55 = .ok (.aload_n 0, 1) := by decide +kernel
theorem d_Mo_need_56 : decode prog_8_method_34_code 56 = .ok (.getfield 57, 3) := by decide +kernel
theorem d_Mo_need_59 : decode prog_8_method_34_code 59 = .ok (.ifCond .ne 26, 3) := by decide +kernel
theorem d_Mo_need_62 : decode prog_8_method_34_code 62 = .ok (.aload_n 0, 1) := by decide +kernel
theorem d_Mo_need_63 : decode prog_8_method_34_code 63 = .ok (.getfield 41, 3) := by decide +kernel
theorem d_Mo_need_66 : decode prog_8_method_34_code 66 = .ok (.iload_n 3, 1) := by decide +kernel
theorem d_Mo_need_67 : decode prog_8_method_34_code 67 = .ok (.iconst 2, 1) := by decide +kernel
theorem d_Mo_need_68 : decode prog_8_method_34_code 68 = .ok (.iastore, 1) := by decide +kernel
theorem d_Mo_need_69 : decode prog_8_method_34_code 69 = .ok (.aload_n 0, 1) := by decide +kernel
theorem d_Mo_need_70 : decode prog_8_method_34_code 70 = .ok (.dup, 1) := by decide +kernel
theorem d_Mo_need_71 : decode prog_8_method_34_code 71 = .ok (.getfield 171, 3) := by decide +kernel
theorem d_Mo_need_74 : decode prog_8_method_34_code 74 = .ok (.iconst 1, 1) := by decide +kernel
theorem d_Mo_need_75 : decode prog_8_method_34_code 75 = .ok (.iadd, 1) := by decide +kernel
theorem d_Mo_need_76 : decode prog_8_method_34_code 76 = .ok (.putfield 171, 3) := by decide +kernel
theorem d_Mo_need_79 : decode prog_8_method_34_code 79 = .ok (.iinc 2 1, 3) := by decide +kernel
theorem d_Mo_need_82 : decode prog_8_method_34_code 82 = .ok (.goto 13, 3) := by decide +kernel
theorem d_Mo_need_85 : decode prog_8_method_34_code 85 = .ok (.aload_n 0, 1) := by decide +kernel
theorem d_Mo_need_86 : decode prog_8_method_34_code 86 = .ok (.dup, 1) := by decide +kernel
theorem d_Mo_need_87 : decode prog_8_method_34_code 87 = .ok (.getfield 174, 3) := by decide +kernel
theorem d_Mo_need_90 : decode prog_8_method_34_code 90 = .ok (.iconst 1, 1) := by decide +kernel
theorem d_Mo_need_91 : decode prog_8_method_34_code 91 = .ok (.iadd, 1) := by decide +kernel
theorem d_Mo_need_92 : decode prog_8_method_34_code 92 = .ok (.putfield 174, 3) := by decide +kernel
theorem d_Mo_need_95 : decode prog_8_method_34_code 95 = .ok (.goto (-93), 3) := by decide +kernel
theorem d_Mo_need_98 : decode prog_8_method_34_code 98 = .ok (.iload_n 2, 1) := by decide +kernel
theorem d_Mo_need_99 : decode prog_8_method_34_code 99 = .ok (.ireturn, 1) := by decide +kernel
theorem d_Mo_known_0 : decode prog_8_method_32_code 0 = .ok (.aload_n 0, 1) := by decide +kernel
theorem d_Mo_known_1 : decode prog_8_method_32_code 1 = .ok (.getfield 7, 3) := by decide +kernel
theorem d_Mo_known_4 : decode prog_8_method_32_code 4 = .ok (.iload_n 1, 1) := by decide +kernel
theorem d_Mo_known_5 : decode prog_8_method_32_code 5 = .ok (.iaload, 1) := by decide +kernel
theorem d_Mo_known_6 : decode prog_8_method_32_code 6 = .ok (.iconst 3, 1) := by decide +kernel
theorem d_Mo_known_7 : decode prog_8_method_32_code 7 = .ok (.if_icmp .ne 17, 3) := by decide +kernel
theorem d_Mo_known_10 : decode prog_8_method_32_code 10 = .ok (.aload_n 0, 1) := by decide +kernel
theorem d_Mo_known_11 : decode prog_8_method_32_code 11 = .ok (.getfield 41, 3) := by decide +kernel
theorem d_Mo_known_14 : decode prog_8_method_32_code 14 = .ok (.aload_n 0, 1) := by decide +kernel
theorem d_Mo_known_15 : decode prog_8_method_32_code 15 = .ok (.getfield 22, 3) := by decide +kernel
theorem d_Mo_known_18 : decode prog_8_method_32_code 18 = .ok (.iload_n 1, 1) := by decide +kernel
theorem d_Mo_known_19 : decode prog_8_method_32_code 19 = .ok (.iaload, 1) := by decide +kernel
theorem d_Mo_known_20 : decode prog_8_method_32_code 20 = .ok (.iaload, 1) := by decide +kernel
theorem d_Mo_known_21 : decode prog_8_method_32_code 21 = .ok (.ifCond .eq 7, 3) := by decide +kernel
theorem d_Mo_known_24 : decode prog_8_method_32_code 24 = .ok (.iconst 1, 1) := by decide +kernel
theorem d_Mo_known_25 : decode prog_8_method_32_code 25 = .ok (.goto 4, 3) := by decide +kernel
theorem d_Mo_known_28 : decode prog_8_method_32_code 28 = .ok (.iconst 0, 1) := by decide +kernel
theorem d_Mo_known_29 : decode prog_8_method_32_code 29 = .ok (.ireturn, 1) := by decide +kernel
theorem d_Mo_missing_0 : decode prog_8_method_33_code 0 = .ok (.aload_n 0, 1) := by decide +kernel
theorem d_Mo_missing_1 : decode prog_8_method_33_code 1 = .ok (.getfield 29, 3) := by decide +kernel
theorem d_Mo_missing_4 : decode prog_8_method_33_code 4 = .ok (.iload_n 1, 1) := by decide +kernel
theorem d_Mo_missing_5 : decode prog_8_method_33_code 5 = .ok (.iaload, 1) := by decide +kernel
theorem d_Mo_missing_6 : decode prog_8_method_33_code 6 = .ok (.bipush 17, 2) := by decide +kernel
theorem d_Mo_missing_8 : decode prog_8_method_33_code 8 = .ok (.if_icmp .ne 74, 3) := by decide +kernel
theorem d_Mo_missing_11 : decode prog_8_method_33_code 11 = .ok (.aload_n 0, 1) := by decide +kernel
theorem d_Mo_missing_12 : decode prog_8_method_33_code 12 = .ok (.getfield 47, 3) := by decide +kernel
theorem d_Mo_missing_15 : decode prog_8_method_33_code 15 = .ok (.iload_n 1, 1) := by decide +kernel
theorem d_Mo_missing_16 : decode prog_8_method_33_code 16 = .ok (.iconst 3, 1) := by decide +kernel
theorem d_Mo_missing_17 : decode prog_8_method_33_code 17 = .ok (.imul, 1) := by decide +kernel
theorem d_Mo_missing_18 : decode prog_8_method_33_code 18 = .ok (.iconst 2, 1) := by decide +kernel
theorem d_Mo_missing_19 : decode prog_8_method_33_code 19 = .ok (.iadd, 1) := by decide +kernel
theorem d_Mo_missing_20 : decode prog_8_method_33_code 20 = .ok (.iaload, 1) := by decide +kernel
theorem d_Mo_missing_21 : decode prog_8_method_33_code 21 = .ok (.istore_n 2, 1) := by decide +kernel
theorem d_Mo_missing_22 : decode prog_8_method_33_code 22 = .ok (.aload_n 0, 1) := by decide +kernel
theorem d_Mo_missing_23 : decode prog_8_method_33_code 23 = .ok (.iload_n 2, 1) := by decide +kernel
theorem d_Mo_missing_24 : decode prog_8_method_33_code 24 = .ok (.invokevirtual 165, 3) := by decide +kernel
theorem d_Mo_missing_27 : decode prog_8_method_33_code 27 = .ok (.ifCond .ne 5, 3) := by decide +kernel
theorem d_Mo_missing_30 : decode prog_8_method_33_code 30 = .ok (.iload_n 2, 1) := by decide +kernel
theorem d_Mo_missing_31 : decode prog_8_method_33_code 31 = .ok (.ireturn, 1) := by decide +kernel
theorem d_Mo_missing_32 : decode prog_8_method_33_code 32 = .ok (.aload_n 0, 1) := by decide +kernel
theorem d_Mo_missing_33 : decode prog_8_method_33_code 33 = .ok (.getfield 25, 3) := by decide +kernel
theorem d_Mo_missing_36 : decode prog_8_method_33_code 36 = .ok (.iload_n 2, 1) := by decide +kernel
theorem d_Mo_missing_37 : decode prog_8_method_33_code 37 = .ok (.bipush 16, 2) := by decide +kernel
theorem d_Mo_missing_39 : decode prog_8_method_33_code 39 = .ok (.imul, 1) := by decide +kernel
theorem d_Mo_missing_40 : decode prog_8_method_33_code 40 = .ok (.daload, 1) := by decide +kernel
theorem d_Mo_missing_41 : decode prog_8_method_33_code 41 = .ok (.dconst 0, 1) := by decide +kernel
theorem d_Mo_missing_42 : decode prog_8_method_33_code 42 = .ok (.dcmp .l, 1) := by decide +kernel
theorem d_Mo_missing_43 : decode prog_8_method_33_code 43 = .ok (.ifCond .eq 14, 3) := by decide +kernel
theorem d_Mo_missing_46 : decode prog_8_method_33_code 46 = .ok (.aload_n 0, 1) := by decide +kernel
theorem d_Mo_missing_47 : decode prog_8_method_33_code 47 = .ok (.getfield 47, 3) := by decide +kernel
theorem d_Mo_missing_50 : decode prog_8_method_33_code 50 = .ok (.iload_n 1, 1) := by decide +kernel
theorem d_Mo_missing_51 : decode prog_8_method_33_code 51 = .ok (.iconst 3, 1) := by decide +kernel
theorem d_Mo_missing_52 : decode prog_8_method_33_code 52 = .ok (.imul, 1) := by decide +kernel
theorem d_Mo_missing_53 : decode prog_8_method_33_code 53 = .ok (.iaload, 1) := by decide +kernel
theorem d_Mo_missing_54 : decode prog_8_method_33_code 54 = .ok (.goto 13, 3) := by decide +kernel
theorem d_Mo_missing_57 : decode prog_8_method_33_code 57 = .ok (.aload_n 0, 1) := by decide +kernel
theorem d_Mo_missing_58 : decode prog_8_method_33_code 58 = .ok (.getfield 47, 3) := by decide +kernel
theorem d_Mo_missing_61 : decode prog_8_method_33_code 61 = .ok (.iload_n 1, 1) := by decide +kernel
theorem d_Mo_missing_62 : decode prog_8_method_33_code 62 = .ok (.iconst 3, 1) := by decide +kernel
theorem d_Mo_missing_63 : decode prog_8_method_33_code 63 = .ok (.imul, 1) := by decide +kernel
theorem d_Mo_missing_64 : decode prog_8_method_33_code 64 = .ok (.iconst 1, 1) := by decide +kernel
theorem d_Mo_missing_65 : decode prog_8_method_33_code 65 = .ok (.iadd, 1) := by decide +kernel
