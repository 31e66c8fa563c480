theorem d_Gr_foldNodes_47 : decode prog_1_method_31_code 47 = .ok (.iinc 1 1, 3) := by decide +kernel
theorem d_Gr_foldNodes_50 : decode prog_1_method_31_code 50 = .ok (.goto (-48), 3) := by decide +kernel
theorem d_Gr_foldNodes_53 : decode prog_1_method_31_code 53 = .ok (.return_, 1) := by decide +kernel
theorem d_Gr_argumentsAreFolded_0 : decode prog_1_method_32_code 0 = .ok (.iconst 0, 1) := by decide +kernel
theorem d_Gr_argumentsAreFolded_1 : decode prog_1_method_32_code 1 = .ok (.istore_n 2, 1) := by decide +kernel
theorem d_Gr_argumentsAreFolded_2 : decode prog_1_method_32_code 2 = .ok (.iload_n 2, 1) := by decide +kernel
theorem d_Gr_argumentsAreFolded_3 : decode prog_1_method_32_code 3 = .ok (.aload_n 1, 1) := by decide +kernel
theorem d_Gr_argumentsAreFolded_4 : decode prog_1_method_32_code 4 = .ok (.getfield 203, 3) := by decide +kernel
theorem d_Gr_argumentsAreFolded_7 : decode prog_1_method_32_code 7 = .ok (.if_icmp .ge 24, 3) := by decide +kernel
theorem d_Gr_argumentsAreFolded_10 : decode prog_1_method_32_code 10 = .ok (.aload_n 0, 1) := by decide +kernel
theorem d_Gr_argumentsAreFolded_11 : decode prog_1_method_32_code 11 = .ok (.aload_n 1, 1) := by decide +kernel
theorem d_Gr_argumentsAreFolded_12 : decode prog_1_method_32_code 12 = .ok (.getfield 206, 3) := by decide +kernel
theorem d_Gr_argumentsAreFolded_15 : decode prog_1_method_32_code 15 = .ok (.iload_n 2, 1) := by decide +kernel
theorem d_Gr_argumentsAreFolded_16 : decode prog_1_method_32_code 16 = .ok (.iaload, 1) := by decide +kernel
theorem d_Gr_argumentsAreFolded_17 : decode prog_1_method_32_code 17 = .ok (.invokevirtual 229, 3) := by decide +kernel
theorem d_Gr_argumentsAreFolded_20 : decode prog_1_method_32_code 20 = .ok (.ifCond .ne 5, 3) := by decide +kernel
theorem d_Gr_argumentsAreFolded_23 : decode prog_1_method_32_code 23 = .ok (.iconst 0, 1) := by decide +kernel
theorem d_Gr_argumentsAreFolded_24 : decode prog_1_method_32_code 24 = .ok (.ireturn, 1) := by decide +kernel
theorem d_Gr_argumentsAreFolded_25 : decode prog_1_method_32_code 25 = .ok (.iinc 2 1, 3) := by decide +kernel
theorem d_Gr_argumentsAreFolded_28 : decode prog_1_method_32_code 28 = .ok (.goto (-26), 3) := by decide +kernel
theorem d_Gr_argumentsAreFolded_31 : decode prog_1_method_32_code 31 = .ok (.iconst 1, 1) := by decide +kernel
theorem d_Gr_argumentsAreFolded_32 : decode prog_1_method_32_code 32 = .ok (.ireturn, 1) := by decide +kernel
theorem d_Gr_isConstantOrFolded_0 : decode prog_1_method_21_code 0 = .ok (.aload_n 0, 1) := by decide +kernel
theorem d_Gr_isConstantOrFolded_1 : decode prog_1_method_21_code 1 = .ok (.getfield 11, 3) := by decide +kernel
theorem d_Gr_isConstantOrFolded_4 : decode prog_1_method_21_code 4 = .ok (.iload_n 1, 1) := by decide +kernel
theorem d_Gr_isConstantOrFolded_5 : decode prog_1_method_21_code 5 = .ok (.aaload, 1) := by decide +kernel
theorem d_Gr_isConstantOrFolded_6 : decode prog_1_method_21_code 6 = .ok (.getfield 64, 3) := by decide +kernel
theorem d_Gr_isConstantOrFolded_9 : decode prog_1_method_21_code 9 = .ok (.iconst 2, 1) := by decide +kernel
theorem d_Gr_isConstantOrFolded_10 : decode prog_1_method_21_code 10 = .ok (.if_icmp .eq 36, 3) := by decide +kernel
theorem d_Gr_isConstantOrFolded_13 : decode prog_1_method_21_code 13 = .ok (.aload_n 0, 1) := by decide +kernel
theorem d_Gr_isConstantOrFolded_14 : decode prog_1_method_21_code 14 = .ok (.getfield 11, 3) := by decide +kernel
theorem d_Gr_isConstantOrFolded_17 : decode prog_1_method_21_code 17 = .ok (.iload_n 1, 1) := by decide +kernel
theorem d_Gr_isConstantOrFolded_18 : decode prog_1_method_21_code 18 = .ok (.aaload, 1) := by decide +kernel
theorem d_Gr_isConstantOrFolded_19 : decode prog_1_method_21_code 19 = .ok (.getfield 64, 3) := by decide +kernel
theorem d_Gr_isConstantOrFolded_22 : decode prog_1_method_21_code 22 = .ok (.iconst 3, 1) := by decide +kernel
theorem d_Gr_isConstantOrFolded_23 : decode prog_1_method_21_code 23 = .ok (.if_icmp .ne 27, 3) := by decide +kernel
theorem d_Gr_isConstantOrFolded_26 : decode prog_1_method_21_code 26 = .ok (.aload_n 0, 1) := by decide +kernel
theorem d_Gr_isConstantOrFolded_27 : decode prog_1_method_21_code 27 = .ok (.getfield 17, 3) := by decide +kernel
theorem d_Gr_isConstantOrFolded_30 : decode prog_1_method_21_code 30 = .ok (.aload_n 0, 1) := by decide +kernel
theorem d_Gr_isConstantOrFolded_31 : decode prog_1_method_21_code 31 = .ok (.getfield 11, 3) := by decide +kernel
theorem d_Gr_isConstantOrFolded_34 : decode prog_1_method_21_code 34 = .ok (.iload_n 1, 1) := by decide +kernel
theorem d_Gr_isConstantOrFolded_35 : decode prog_1_method_21_code 35 = .ok (.aaload, 1) := by decide +kernel
theorem d_Gr_isConstantOrFolded_36 : decode prog_1_method_21_code 36 = .ok (.getfield 125, 3) := by decide +kernel
theorem d_Gr_isConstantOrFolded_39 : decode prog_1_method_21_code 39 = .ok (.aaload, 1) := by decide +kernel
theorem d_Gr_isConstantOrFolded_40 : decode prog_1_method_21_code 40 = .ok (.getfield 187, 3) := by decide +kernel
theorem d_Gr_isConstantOrFolded_43 : decode prog_1_method_21_code 43 = .ok (.ifCond .eq 7, 3) := by decide +kernel
theorem d_Gr_isConstantOrFolded_46 : decode prog_1_method_21_code 46 = .ok (.iconst 1, 1) := by decide +kernel
theorem d_Gr_isConstantOrFolded_47 : decode prog_1_method_21_code 47 = .ok (.goto 4, 3) := by decide +kernel
theorem d_Gr_isConstantOrFolded_50 : decode prog_1_method_21_code 50 = .ok (.iconst 0, 1) := by decide +kernel
theorem d_Gr_isConstantOrFolded_51 : decode prog_1_method_21_code 51 = .ok (.ireturn, 1) := by decide +kernel
theorem d_Gr_workOut_0 : decode prog_1_method_34_code 0 = .ok (.aload_n 0, 1) := by decide +kernel
theorem d_Gr_workOut_1 : decode prog_1_method_34_code 1 = .ok (.getfield 11, 3) := by decide +kernel
theorem d_Gr_workOut_4 : decode prog_1_method_34_code 4 = .ok (.aload_n 1, 1) := by decide +kernel
theorem d_Gr_workOut_5 : decode prog_1_method_34_code 5 = .ok (.getfield 131, 3) := by decide +kernel
theorem d_Gr_workOut_8 : decode prog_1_method_34_code 8 = .ok (.aaload, 1) := by decide +kernel
theorem d_Gr_workOut_9 : decode prog_1_method_34_code 9 = .ok (.getfield 67, 3) := by decide +kernel
theorem d_Gr_workOut_12 : decode prog_1_method_34_code 12 = .ok (.astore_n 2, 1) := by decide +kernel
theorem d_Gr_workOut_13 : decode prog_1_method_34_code 13 = .ok (.aload_n 1, 1) := by decide +kernel
theorem d_Gr_workOut_14 : decode prog_1_method_34_code 14 = .ok (.aload_n 0, 1) := by decide +kernel
theorem d_Gr_workOut_15 : decode prog_1_method_34_code 15 = .ok (.aload_n 1, 1) := by decide +kernel
theorem d_Gr_workOut_16 : decode prog_1_method_34_code 16 = .ok (.iconst 0, 1) := by decide +kernel
theorem d_Gr_workOut_17 : decode prog_1_method_34_code 17 = .ok (.invokevirtual 212, 3) := by decide +kernel
theorem d_Gr_workOut_20 : decode prog_1_method_34_code 20 = .ok (.aload_n 0, 1) := by decide +kernel
theorem d_Gr_workOut_21 : decode prog_1_method_34_code 21 = .ok (.aload_n 1, 1) := by decide +kernel
theorem d_Gr_workOut_22 : decode prog_1_method_34_code 22 = .ok (.iconst 1, 1) := by decide +kernel
theorem d_Gr_workOut_23 : decode prog_1_method_34_code 23 = .ok (.invokevirtual 212, 3) := by decide +kernel
theorem d_Gr_workOut_26 : decode prog_1_method_34_code 26 = .ok (.aload_n 0, 1) := by decide +kernel
theorem d_Gr_workOut_27 : decode prog_1_method_34_code 27 = .ok (.aload_n 1, 1) := by decide +kernel
theorem d_Gr_workOut_28 : decode prog_1_method_34_code 28 = .ok (.iconst 2, 1) := by decide +kernel
theorem d_Gr_workOut_29 : decode prog_1_method_34_code 29 = .ok (.invokevirtual 212, 3) := by decide +kernel
theorem d_Gr_workOut_32 : decode prog_1_method_34_code 32 = .ok (.aload_n 2, 1) := by decide +kernel
theorem d_Gr_workOut_33 : decode prog_1_method_34_code 33 = .ok (.invokestatic 232, 3) := by decide +kernel
theorem d_Gr_workOut_36 : decode prog_1_method_34_code 36 = .ok (.istore_n 3, 1) := by decide +kernel
theorem d_Gr_workOut_37 : decode prog_1_method_34_code 37 = .ok (.iload_n 3, 1) := by decide +kernel
theorem d_Gr_workOut_38 : decode prog_1_method_34_code 38 = .ok (.ifCond .ne 14, 3) := by decide +kernel
theorem d_Gr_workOut_41 : decode prog_1_method_34_code 41 = .ok (.aload_n 2, 1) := by decide +kernel
theorem d_Gr_workOut_42 : decode prog_1_method_34_code 42 = .ok (.invokevirtual 237, 3) := by decide +kernel
theorem d_Gr_workOut_45 : decode prog_1_method_34_code 45 = .ok (.ifCond .eq 7, 3) := by decide +kernel
theorem d_Gr_workOut_48 : decode prog_1_method_34_code 48 = .ok (.iconst 1, 1) := by decide +kernel
theorem d_Gr_workOut_49 : decode prog_1_method_34_code 49 = .ok (.goto 4, 3) := by decide +kernel
theorem d_Gr_workOut_52 : decode prog_1_method_34_code 52 = .ok (.iload_n 3, 1) := by decide +kernel
theorem d_Gr_workOut_53 : decode prog_1_method_34_code 53 = .ok (.ireturn, 1) := by decide +kernel
theorem d_Gr_run_0 : decode prog_1_method_7_code 0 = .ok (.iload_n 1, 1) := by decide +kernel
theorem d_Gr_run_1 : decode prog_1_method_7_code 1 = .ok (.invokestatic 80, 3) := by decide +kernel
theorem d_Gr_run_4 : decode prog_1_method_7_code 4 = .ok (.ifCond .eq 15, 3) := by decide +kernel
theorem d_Gr_run_7 : decode prog_1_method_7_code 7 = .ok (.aload_n 0, 1) := by decide +kernel
theorem d_Gr_run_8 : decode prog_1_method_7_code 8 = .ok (.getfield 11, 3) := by decide +kernel
theorem d_Gr_run_11 : decode prog_1_method_7_code 11 = .ok (.iload_n 1, 1) := by decide +kernel
theorem d_Gr_run_12 : decode prog_1_method_7_code 12 = .ok (.aaload, 1) := by decide +kernel
theorem d_Gr_run_13 : decode prog_1_method_7_code 13 = .ok (.getfield 64, 3) := by decide +kernel
theorem d_Gr_run_16 : decode prog_1_method_7_code 16 = .ok (.ifCond .ne 11, 3) := by decide +kernel
theorem d_Gr_run_19 : decode prog_1_method_7_code 19 = .ok (.new 61, 3) := by decide +kernel
theorem d_Gr_run_22 : decode prog_1_method_7_code 22 = .ok (.dup, 1) := by decide +kernel
theorem d_Gr_run_23 : decode prog_1_method_7_code 23 = .ok (.invokespecial 63, 3) := by decide +kernel
theorem d_Gr_run_26 : decode prog_1_method_7_code 26 = .ok (.athrow, 1) := by decide +kernel
theorem d_Gr_run_27 : decode prog_1_method_7_code 27 = .ok (.aload_n 0, 1) := by decide +kernel
theorem d_Gr_run_28 : decode prog_1_method_7_code 28 = .ok (.getfield 39, 3) := by decide +kernel
theorem d_Gr_run_31 : decode prog_1_method_7_code 31 = .ok (.ifCond .ne 11, 3) := by decide +kernel
theorem d_Gr_run_34 : decode prog_1_method_7_code 34 = .ok (.new 114, 3) := by decide +kernel
theorem d_Gr_run_37 : decode prog_1_method_7_code 37 = .ok (.dup, 1) := by decide +kernel
theorem d_Gr_run_38 : decode prog_1_method_7_code 38 = .ok (.invokespecial 116, 3) := by decide +kernel
theorem d_Gr_run_41 : decode prog_1_method_7_code 41 = .ok (.athrow, 1) := by decide +kernel
theorem d_Gr_run_42 : decode prog_1_method_7_code 42 = .ok (.aload_n 0, 1) := by decide +kernel
theorem d_Gr_run_43 : decode prog_1_method_7_code 43 = .ok (.getfield 43, 3) := by decide +kernel
theorem d_Gr_run_46 : decode prog_1_method_7_code 46 = .ok (.istore_n 2, 1) := by decide +kernel
theorem d_Gr_run_47 : decode prog_1_method_7_code 47 = .ok (.aload_n 0, 1) := by decide +kernel
theorem d_Gr_run_48 : decode prog_1_method_7_code 48 = .ok (.iload_n 1, 1) := by decide +kernel
theorem d_Gr_run_49 : decode prog_1_method_7_code 49 = .ok (.invokevirtual 151, 3) := by decide +kernel
theorem d_Gr_run_52 : decode prog_1_method_7_code 52 = .ok (.istore_n 3, 1) := by decide +kernel
theorem d_Gr_run_53 : decode prog_1_method_7_code 53 = .ok (.iload_n 3, 1) := by decide +kernel
theorem d_Gr_run_54 : decode prog_1_method_7_code 54 = .ok (.iconst 1, 1) := by decide +kernel
theorem d_Gr_run_55 : decode prog_1_method_7_code 55 = .ok (.if_icmp .ne 11, 3) := by decide +kernel
theorem d_Gr_run_58 : decode prog_1_method_7_code 58 = .ok (.new 155, 3) := by decide +kernel
theorem d_Gr_run_61 : decode prog_1_method_7_code 61 = .ok (.dup, 1) := by decide +kernel
theorem d_Gr_run_62 : decode prog_1_method_7_code 62 = .ok (.invokespecial 157, 3) := by decide +kernel
theorem d_Gr_run_65 : decode prog_1_method_7_code 65 = .ok (.athrow, 1) := by decide +kernel
theorem d_Gr_run_66 : decode prog_1_method_7_code 66 = .ok (.iload_n 3, 1) := by decide +kernel
theorem d_Gr_run_67 : decode prog_1_method_7_code 67 = .ok (.iconst 2, 1) := by decide +kernel
theorem d_Gr_run_68 : decode prog_1_method_7_code 68 = .ok (.if_icmp .ne 11, 3) := by decide +kernel
theorem d_Gr_run_71 : decode prog_1_method_7_code 71 = .ok (.new 158, 3) := by decide +kernel
theorem d_Gr_run_74 : decode prog_1_method_7_code 74 = .ok (.dup, 1) := by decide +kernel
theorem d_Gr_run_75 : decode prog_1_method_7_code 75 = .ok (.invokespecial 160, 3) := by decide +kernel
theorem d_Gr_run_78 : decode prog_1_method_7_code 78 = .ok (.athrow, 1) := by decide +kernel
theorem d_Gr_run_79 : decode prog_1_method_7_code 79 = .ok (.aload_n 0, 1) := by decide +kernel
theorem d_Gr_run_80 : decode prog_1_method_7_code 80 = .ok (.getfield 43, 3) := by decide +kernel
theorem d_Gr_run_83 : decode prog_1_method_7_code 83 = .ok (.iload_n 2, 1) := by decide +kernel
theorem d_Gr_run_84 : decode prog_1_method_7_code 84 = .ok (.isub, 1) := by decide +kernel
theorem d_Gr_run_85 : decode prog_1_method_7_code 85 = .ok (.ireturn, 1) := by decide +kernel
theorem d_Gr_runFor_0 : decode prog_1_method_35_code 0 = .ok (.iconst 0, 1) := by decide +kernel
theorem d_Gr_runFor_1 : decode prog_1_method_35_code 1 = .ok (.istore_n 2, 1) := by decide +kernel
theorem d_Gr_runFor_2 : decode prog_1_method_35_code 2 = .ok (.aload_n 0, 1) := by decide +kernel
theorem d_Gr_runFor_3 : decode prog_1_method_35_code 3 = .ok (.iload_n 1, 1) := by decide +kernel
theorem d_Gr_runFor_4 : decode prog_1_method_35_code 4 = .ok (.invokevirtual 161, 3) := by decide +kernel
theorem d_Gr_runFor_7 : decode prog_1_method_35_code 7 = .ok (.ifCond .ne 21, 3) := by decide +kernel
theorem d_Gr_runFor_10 : decode prog_1_method_35_code 10 = .ok (.aload_n 0, 1) := by decide +kernel
theorem d_Gr_runFor_11 : decode prog_1_method_35_code 11 = .ok (.getfield 25, 3) := by decide +kernel
theorem d_Gr_runFor_14 : decode prog_1_method_35_code 14 = .ok (.iload_n 2, 1) := by decide +kernel
theorem d_Gr_runFor_15 : decode prog_1_method_35_code 15 = .ok (.iinc 2 1, 3) := by decide +kernel
theorem d_Gr_runFor_18 : decode prog_1_method_35_code 18 = .ok (.aload_n 0, 1) := by decide +kernel
theorem d_Gr_runFor_19 : decode prog_1_method_35_code 19 = .ok (.getfield 11, 3) := by decide +kernel
theorem d_Gr_runFor_22 : decode prog_1_method_35_code 22 = .ok (.iload_n 1, 1) := by decide +kernel
theorem d_Gr_runFor_23 : decode prog_1_method_35_code 23 = .ok (.aaload, 1) := by decide +kernel
theorem d_Gr_runFor_24 : decode prog_1_method_35_code 24 = .ok (.getfield 125, 3) := by decide +kernel
theorem d_Gr_runFor_27 : decode prog_1_method_35_code 27 = .ok (.iastore, 1) := by decide +kernel
theorem d_Gr_runFor_28 : decode prog_1_method_35_code 28 = .ok (.iconst 0, 1) := by decide +kernel
theorem d_Gr_runFor_29 : decode prog_1_method_35_code 29 = .ok (.istore_n 3, 1) := by decide +kernel
theorem d_Gr_runFor_30 : decode prog_1_method_35_code 30 = .ok (.iload_n 3, 1) := by decide +kernel
theorem d_Gr_runFor_31 : decode prog_1_method_35_code 31 = .ok (.bipush 28, 2) := by decide +kernel
theorem d_Gr_runFor_33 : decode prog_1_method_35_code 33 = .ok (.if_icmp .ge 89, 3) := by decide +kernel
theorem d_Gr_runFor_36 : decode prog_1_method_35_code 36 = .ok (.iload_n 2, 1) := by decide +kernel
theorem d_Gr_runFor_37 : decode prog_1_method_35_code 37 = .ok (.ifCond .le 85, 3) := by decide +kernel
theorem d_Gr_runFor_40 : decode prog_1_method_35_code 40 = .ok (.aload_n 0, 1) := by decide +kernel
theorem d_Gr_runFor_41 : decode prog_1_method_35_code 41 = .ok (.getfield 17, 3) := by decide +kernel
theorem d_Gr_runFor_44 : decode prog_1_method_35_code 44 = .ok (.aload_n 0, 1) := by decide +kernel
theorem d_Gr_runFor_45 : decode prog_1_method_35_code 45 = .ok (.getfield 25, 3) := by decide +kernel
theorem d_Gr_runFor_48 : decode prog_1_method_35_code 48 = .ok (.iload_n 2, 1) := by decide +kernel
theorem d_Gr_runFor_49 : decode prog_1_method_35_code 49 = .ok (.iconst 1, 1) := by decide +kernel
theorem d_Gr_runFor_50 : decode prog_1_method_35_code 50 = .ok (.isub, 1) := by decide +kernel
theorem d_Gr_runFor_51 : decode prog_1_method_35_code 51 = .ok (.iaload, 1) := by decide +kernel
theorem d_Gr_runFor_52 : decode prog_1_method_35_code 52 = .ok (.aaload, 1) := by decide +kernel
theorem d_Gr_runFor_53 : decode prog_1_method_35_code 53 = .ok (.astore 4, 2) := by decide +kernel
theorem d_Gr_runFor_55 : decode prog_1_method_35_code 55 = .ok (.aload_n 0, 1) := by decide +kernel
theorem d_Gr_runFor_56 : decode prog_1_method_35_code 56 = .ok (.aload 4, 2) := by decide +kernel
theorem d_Gr_runFor_58 : decode prog_1_method_35_code 58 = .ok (.invokevirtual 240, 3) := by decide +kernel
theorem d_Gr_runFor_61 : decode prog_1_method_35_code 61 = .ok (.istore 5, 2) := by decide +kernel
theorem d_Gr_runFor_63 : decode prog_1_method_35_code 63 = .ok (.iload 5, 2) := by decide +kernel
theorem d_Gr_runFor_65 : decode prog_1_method_35_code 65 = .ok (.iconst (-1), 1) := by decide +kernel
theorem d_Gr_runFor_66 : decode prog_1_method_35_code 66 = .ok (.if_icmp .ne 25, 3) := by decide +kernel
theorem d_Gr_runFor_69 : decode prog_1_method_35_code 69 = .ok (.aload_n 0, 1) := by decide +kernel
theorem d_Gr_runFor_70 : decode prog_1_method_35_code 70 = .ok (.aload 4, 2) := by decide +kernel
theorem d_Gr_runFor_72 : decode prog_1_method_35_code 72 = .ok (.invokevirtual 243, 3) := by decide +kernel
theorem d_Gr_runFor_75 : decode prog_1_method_35_code 75 = .ok (.istore 6, 2) := by decide +kernel
theorem d_Gr_runFor_77 : decode prog_1_method_35_code 77 = .ok (.iload 6, 2) := by decide +kernel
theorem d_Gr_runFor_79 : decode prog_1_method_35_code 79 = .ok (.ifCond .eq 6, 3) := by decide +kernel
theorem d_Gr_runFor_82 : decode prog_1_method_35_code 82 = .ok (.iload 6, 2) := by decide +kernel
theorem d_Gr_runFor_84 : decode prog_1_method_35_code 84 = .ok (.ireturn, 1) := by decide +kernel
theorem d_Gr_runFor_85 : decode prog_1_method_35_code 85 = .ok (.iinc 2 (-1), 3) := by decide +kernel
theorem d_Gr_runFor_88 : decode prog_1_method_35_code 88 = .ok (.goto 28, 3) := by decide +kernel
theorem d_Gr_runFor_91 : decode prog_1_method_35_code 91 = .ok (.iload_n 2, 1) := by decide +kernel
theorem d_Gr_runFor_92 : decode prog_1_method_35_code 92 = .ok (.bipush 14, 2) := by decide +kernel
theorem d_Gr_runFor_94 : decode prog_1_method_35_code 94 = .ok (.if_icmp .ge 22, 3) := by decide +kernel
theorem d_Gr_runFor_97 : decode prog_1_method_35_code 97 = .ok (.aload_n 0, 1) := by decide +kernel
theorem d_Gr_runFor_98 : decode prog_1_method_35_code 98 = .ok (.getfield 25, 3) := by decide +kernel
theorem d_Gr_runFor_101 : decode prog_1_method_35_code 101 = .ok (.iload_n 2, 1) := by decide +kernel
theorem d_Gr_runFor_102 : decode prog_1_method_35_code 102 = .ok (.iinc 2 1, 3) := by decide +kernel
theorem d_Gr_runFor_105 : decode prog_1_method_35_code 105 = .ok (.aload_n 0, 1) := by decide +kernel
theorem d_Gr_runFor_106 : decode prog_1_method_35_code 106 = .ok (.getfield 11, 3) := by decide +kernel
theorem d_Gr_runFor_109 : decode prog_1_method_35_code 109 = .ok (.iload 5, 2) := by decide +kernel
theorem d_Gr_runFor_111 : decode prog_1_method_35_code 111 = .ok (.aaload, 1) := by decide +kernel
theorem d_Gr_runFor_112 : decode prog_1_method_35_code 112 = .ok (.getfield 125, 3) := by decide +kernel
theorem d_Gr_runFor_115 : decode prog_1_method_35_code 115 = .ok (.iastore, 1) := by decide +kernel
theorem d_Gr_runFor_116 : decode prog_1_method_35_code 116 = .ok (.iinc 3 1, 3) := by decide +kernel
theorem d_Gr_runFor_119 : decode prog_1_method_35_code 119 = .ok (.goto (-89), 3) := by decide +kernel
theorem d_Gr_runFor_122 : decode prog_1_method_35_code 122 = .ok (.iconst 0, 1) := by decide +kernel
theorem d_Gr_runFor_123 : decode prog_1_method_35_code 123 = .ok (.ireturn, 1) := by decide +kernel
theorem d_Gr_isThere_0 : decode prog_1_method_22_code 0 = .ok (.aload_n 0, 1) := by decide +kernel
theorem d_Gr_isThere_1 : decode prog_1_method_22_code 1 = .ok (.iload_n 1, 1) := by decide +kernel
theorem d_Gr_isThere_2 : decode prog_1_method_22_code 2 = .ok (.invokevirtual 83, 3) := by decide +kernel
theorem d_Gr_isThere_5 : decode prog_1_method_22_code 5 = .ok (.ifCond .ne 36, 3) := by decide +kernel
theorem d_Gr_isThere_8 : decode prog_1_method_22_code 8 = .ok (.aload_n 0, 1) := by decide +kernel
theorem d_Gr_isThere_9 : decode prog_1_method_22_code 9 = .ok (.getfield 11, 3) := by decide +kernel
theorem d_Gr_isThere_12 : decode prog_1_method_22_code 12 = .ok (.iload_n 1, 1) := by decide +kernel
theorem d_Gr_isThere_13 : decode prog_1_method_22_code 13 = .ok (.aaload, 1) := by decide +kernel
theorem d_Gr_isThere_14 : decode prog_1_method_22_code 14 = .ok (.getfield 64, 3) := by decide +kernel
theorem d_Gr_isThere_17 : decode prog_1_method_22_code 17 = .ok (.iconst 3, 1) := by decide +kernel
theorem d_Gr_isThere_18 : decode prog_1_method_22_code 18 = .ok (.if_icmp .ne 27, 3) := by decide +kernel
theorem d_Gr_isThere_21 : decode prog_1_method_22_code 21 = .ok (.aload_n 0, 1) := by decide +kernel
theorem d_Gr_isThere_22 : decode prog_1_method_22_code 22 = .ok (.getfield 17, 3) := by decide +kernel
theorem d_Gr_isThere_25 : decode prog_1_method_22_code 25 = .ok (.aload_n 0, 1) := by decide +kernel
theorem d_Gr_isThere_26 : decode prog_1_method_22_code 26 = .ok (.getfield 11, 3) := by decide +kernel
theorem d_Gr_isThere_29 : decode prog_1_method_22_code 29 = .ok (.iload_n 1, 1) := by decide +kernel
theorem d_Gr_isThere_30 : decode prog_1_method_22_code 30 = .ok (.aaload, 1) := by decide +kernel
theorem d_Gr_isThere_31 : decode prog_1_method_22_code 31 = .ok (.getfield 125, 3) := by decide +kernel
theorem d_Gr_isThere_34 : decode prog_1_method_22_code 34 = .ok (.aaload, 1) := by decide +kernel
theorem d_Gr_isThere_35 : decode prog_1_method_22_code 35 = .ok (.invokevirtual 190, 3) := by decide +kernel
theorem d_Gr_isThere_38 : decode prog_1_method_22_code 38 = .ok (.ifCond .eq 7, 3) := by decide +kernel
theorem d_Gr_isThere_41 : decode prog_1_method_22_code 41 = .ok (.iconst 1, 1) := by decide +kernel
theorem d_Gr_isThere_42 : decode prog_1_method_22_code 42 = .ok (.goto 4, 3) := by decide +kernel
theorem d_Gr_isThere_45 : decode prog_1_method_22_code 45 = .ok (.iconst 0, 1) := by decide +kernel
theorem d_Gr_isThere_46 : decode prog_1_method_22_code 46 = .ok (.ireturn, 1) := by decide +kernel
theorem d_Gr_firstNeeded_0 : decode prog_1_method_37_code 0 = .ok (.aload_n 1, 1) := by decide +kernel
theorem d_Gr_firstNeeded_1 : decode prog_1_method_37_code 1 = .ok (.getfield 246, 3) := by decide +kernel
theorem d_Gr_firstNeeded_4 : decode prog_1_method_37_code 4 = .ok (.bipush 17, 2) := by decide +kernel
theorem d_Gr_firstNeeded_6 : decode prog_1_method_37_code 6 = .ok (.if_icmp .ne 9, 3) := by decide +kernel
theorem d_Gr_firstNeeded_9 : decode prog_1_method_37_code 9 = .ok (.aload_n 0, 1) := by decide +kernel
theorem d_Gr_firstNeeded_10 : decode prog_1_method_37_code 10 = .ok (.aload_n 1, 1) := by decide +kernel
theorem d_Gr_firstNeeded_11 : decode prog_1_method_37_code 11 = .ok (.invokevirtual 249, 3) := by decide +kernel
theorem d_Gr_firstNeeded_14 : decode prog_1_method_37_code 14 = .ok (.ireturn, 1) := by decide +kernel
theorem d_Gr_firstNeeded_15 : decode prog_1_method_37_code 15 = .ok (.iconst 0, 1) := by decide +kernel
theorem d_Gr_firstNeeded_16 : decode prog_1_method_37_code 16 = .ok (.istore_n 2, 1) := by decide +kernel
theorem d_Gr_firstNeeded_17 : decode prog_1_method_37_code 17 = .ok (.iload_n 2, 1) := by decide +kernel
theorem d_Gr_firstNeeded_18 : decode prog_1_method_37_code 18 = .ok (.aload_n 1, 1) := by decide +kernel
theorem d_Gr_firstNeeded_19 : decode prog_1_method_37_code 19 = .ok (.getfield 203, 3) := by decide +kernel
theorem d_Gr_firstNeeded_22 : decode prog_1_method_37_code 22 = .ok (.if_icmp .ge 29, 3) := by decide +kernel
theorem d_Gr_firstNeeded_25 : decode prog_1_method_37_code 25 = .ok (.aload_n 0, 1) := by decide +kernel
theorem d_Gr_firstNeeded_26 : decode prog_1_method_37_code 26 = .ok (.aload_n 1, 1) := by decide +kernel
theorem d_Gr_firstNeeded_27 : decode prog_1_method_37_code 27 = .ok (.getfield 206, 3) := by decide +kernel
theorem d_Gr_firstNeeded_30 : decode prog_1_method_37_code 30 = .ok (.iload_n 2, 1) := by decide +kernel
theorem d_Gr_firstNeeded_31 : decode prog_1_method_37_code 31 = .ok (.iaload, 1) := by decide +kernel
theorem d_Gr_firstNeeded_32 : decode prog_1_method_37_code 32 = .ok (.invokevirtual 161, 3) := by decide +kernel
theorem d_Gr_firstNeeded_35 : decode prog_1_method_37_code 35 = .ok (.ifCond .ne 10, 3) := by decide +kernel
theorem d_Gr_firstNeeded_38 : decode prog_1_method_37_code 38 = .ok (.aload_n 1, 1) := by decide +kernel
theorem d_Gr_firstNeeded_39 : decode prog_1_method_37_code 39 = .ok (.getfield 206, 3) := by decide +kernel
theorem d_Gr_firstNeeded_42 : decode prog_1_method_37_code 42 = .ok (.iload_n 2, 1) := by decide +kernel
theorem d_Gr_firstNeeded_43 : decode prog_1_method_37_code 43 = .ok (.iaload, 1) := by decide +kernel
theorem d_Gr_firstNeeded_44 : decode prog_1_method_37_code 44 = .ok (.ireturn, 1) := by decide +kernel
theorem d_Gr_firstNeeded_45 : decode prog_1_method_37_code 45 = .ok (.iinc 2 1, 3) := by decide +kernel
theorem d_Gr_firstNeeded_48 : decode prog_1_method_37_code 48 = .ok (.goto (-31), 3) := by decide +kernel
theorem d_Gr_firstNeeded_51 : decode prog_1_method_37_code 51 = .ok (.iconst (-1), 1) := by decide +kernel
theorem d_Gr_firstNeeded_52 : decode prog_1_method_37_code 52 = .ok (.ireturn, 1) := by decide +kernel
theorem d_Gr_firstNeededByChoice_0 : decode prog_1_method_38_code 0 = .ok (.aload_n 1, 1) := by decide +kernel
theorem d_Gr_firstNeededByChoice_1 : decode prog_1_method_38_code 1 = .ok (.getfield 206, 3) := by decide +kernel
theorem d_Gr_firstNeededByChoice_4 : decode prog_1_method_38_code 4 = .ok (.iconst 2, 1) := by decide +kernel
theorem d_Gr_firstNeededByChoice_5 : decode prog_1_method_38_code 5 = .ok (.iaload, 1) := by decide +kernel
theorem d_Gr_firstNeededByChoice_6 : decode prog_1_method_38_code 6 = .ok (.istore_n 2, 1) := by decide +kernel
theorem d_Gr_firstNeededByChoice_7 : decode prog_1_method_38_code 7 = .ok (.aload_n 0, 1) := by decide +kernel
theorem d_Gr_firstNeededByChoice_8 : decode prog_1_method_38_code 8 = .ok (.iload_n 2, 1) := by decide +kernel
theorem d_Gr_firstNeededByChoice_9 : decode prog_1_method_38_code 9 = .ok (.invokevirtual 161, 3) := by decide +kernel
theorem d_Gr_firstNeededByChoice_12 : decode prog_1_method_38_code 12 = .ok (.ifCond .ne 5, 3) := by decide +kernel
theorem d_Gr_firstNeededByChoice_15 : decode prog_1_method_38_code 15 = .ok (.iload_n 2, 1) := by decide +kernel
theorem d_Gr_firstNeededByChoice_16 : decode prog_1_method_38_code 16 = .ok (.ireturn, 1) := by decide +kernel
theorem d_Gr_firstNeededByChoice_17 : decode prog_1_method_38_code 17 = .ok (.aload_n 1, 1) := by decide +kernel
theorem d_Gr_firstNeededByChoice_18 : decode prog_1_method_38_code 18 = .ok (.getfield 206, 3) := by decide +kernel
theorem d_Gr_firstNeededByChoice_21 : decode prog_1_method_38_code 21 = .ok (.aload_n 0, 1) := by decide +kernel
theorem d_Gr_firstNeededByChoice_22 : decode prog_1_method_38_code 22 = .ok (.getfield 11, 3) := by decide +kernel
theorem d_Gr_firstNeededByChoice_25 : decode prog_1_method_38_code 25 = .ok (.iload_n 2, 1) := by decide +kernel
theorem d_Gr_firstNeededByChoice_26 : decode prog_1_method_38_code 26 = .ok (.aaload, 1) := by decide +kernel
theorem d_Gr_firstNeededByChoice_27 : decode prog_1_method_38_code 27 = .ok (.getfield 67, 3) := by decide +kernel
theorem d_Gr_firstNeededByChoice_30 : decode prog_1_method_38_code 30 = .ok (.invokevirtual 252, 3) := by decide +kernel
theorem d_Gr_firstNeededByChoice_33 : decode prog_1_method_38_code 33 = .ok (.ifCond .eq 7, 3) := by decide +kernel
theorem d_Gr_firstNeededByChoice_36 : decode prog_1_method_38_code 36 = .ok (.iconst 1, 1) := by decide +kernel
theorem d_Gr_firstNeededByChoice_37 : decode prog_1_method_38_code 37 = .ok (.goto 4, 3) := by decide +kernel
theorem d_Gr_firstNeededByChoice_40 : decode prog_1_method_38_code 40 = .ok (.iconst 0, 1) := by decide +kernel
theorem d_Gr_firstNeededByChoice_41 : decode prog_1_method_38_code 41 = .ok (.iaload, 1) := by decide +kernel
theorem d_Gr_firstNeededByChoice_42 : decode prog_1_method_38_code 42 = .ok (.istore_n 3, 1) := by decide +kernel
theorem d_Gr_firstNeededByChoice_43 : decode prog_1_method_38_code 43 = .ok (.aload_n 0, 1) := by decide +kernel
theorem d_Gr_firstNeededByChoice_44 : decode prog_1_method_38_code 44 = .ok (.iload_n 3, 1) := by decide +kernel
theorem d_Gr_firstNeededByChoice_45 : decode prog_1_method_38_code 45 = .ok (.invokevirtual 161, 3) := by decide +kernel
theorem d_Gr_firstNeededByChoice_48 : decode prog_1_method_38_code 48 = .ok (.ifCond .eq 7, 3) := by decide +kernel
theorem d_Gr_firstNeededByChoice_51 : decode prog_1_method_38_code 51 = .ok (.iconst (-1), 1) := by decide +kernel
theorem d_Gr_firstNeededByChoice_52 : decode prog_1_method_38_code 52 = .ok (.goto 4, 3) := by decide +kernel
theorem d_Gr_firstNeededByChoice_55 : decode prog_1_method_38_code 55 = .ok (.iload_n 3, 1) := by decide +kernel
theorem d_Gr_firstNeededByChoice_56 : decode prog_1_method_38_code 56 = .ok (.ireturn, 1) := by decide +kernel
theorem d_Gr_learn_0 : decode prog_1_method_36_code 0 = .ok (.aload_n 0, 1) := by decide +kernel
theorem d_Gr_learn_1 : decode prog_1_method_36_code 1 = .ok (.aload_n 1, 1) := by decide +kernel
theorem d_Gr_learn_2 : decode prog_1_method_36_code 2 = .ok (.invokevirtual 225, 3) := by decide +kernel
theorem d_Gr_learn_5 : decode prog_1_method_36_code 5 = .ok (.istore_n 2, 1) := by decide +kernel
theorem d_Gr_learn_6 : decode prog_1_method_36_code 6 = .ok (.iload_n 2, 1) := by decide +kernel
theorem d_Gr_learn_7 : decode prog_1_method_36_code 7 = .ok (.ifCond .ne 21, 3) := by decide +kernel
theorem d_Gr_learn_10 : decode prog_1_method_36_code 10 = .ok (.aload_n 1, 1) := by decide +kernel
theorem d_Gr_learn_11 : decode prog_1_method_36_code 11 = .ok (.iconst 1, 1) := by decide +kernel
theorem d_Gr_learn_12 : decode prog_1_method_36_code 12 = .ok (.putfield 193, 3) := by decide +kernel
theorem d_Gr_learn_15 : decode prog_1_method_36_code 15 = .ok (.aload_n 0, 1) := by decide +kernel
theorem d_Gr_learn_16 : decode prog_1_method_36_code 16 = .ok (.dup, 1) := by decide +kernel
theorem d_Gr_learn_17 : decode prog_1_method_36_code 17 = .ok (.getfield 43, 3) := by decide +kernel
theorem d_Gr_learn_20 : decode prog_1_method_36_code 20 = .ok (.iconst 1, 1) := by decide +kernel
theorem d_Gr_learn_21 : decode prog_1_method_36_code 21 = .ok (.iadd, 1) := by decide +kernel
theorem d_Gr_learn_22 : decode prog_1_method_36_code 22 = .ok (.putfield 43, 3) := by decide +kernel
theorem d_Gr_learn_25 : decode prog_1_method_36_code 25 = .ok (.goto 13, 3) := by decide +kernel
theorem d_Gr_learn_28 : decode prog_1_method_36_code 28 = .ok (.aload_n 0, 1) := by decide +kernel
theorem d_Gr_learn_29 : decode prog_1_method_36_code 29 = .ok (.dup, 1) := by decide +kernel
theorem d_Gr_learn_30 : decode prog_1_method_36_code 30 = .ok (.getfield 46, 3) := by decide +kernel
theorem d_Gr_learn_33 : decode prog_1_method_36_code 33 = .ok (.iconst 1, 1) := by decide +kernel
theorem d_Gr_learn_34 : decode prog_1_method_36_code 34 = .ok (.iadd, 1) := by decide +kernel
theorem d_Gr_learn_35 : decode prog_1_method_36_code 35 = .ok (.putfield 46, 3) := by decide +kernel
theorem d_Gr_learn_38 : decode prog_1_method_36_code 38 = .ok (.iload_n 2, 1) := by decide +kernel
theorem d_Gr_learn_39 : decode prog_1_method_36_code 39 = .ok (.ireturn, 1) := by decide +kernel
theorem d_Gr_get_0 : decode prog_1_method_8_code 0 = .ok (.iload_n 1, 1) := by decide +kernel
theorem d_Gr_get_1 : decode prog_1_method_8_code 1 = .ok (.invokestatic 80, 3) := by decide +kernel
theorem d_Gr_get_4 : decode prog_1_method_8_code 4 = .ok (.ifCond .ne 11, 3) := by decide +kernel
theorem d_Gr_get_7 : decode prog_1_method_8_code 7 = .ok (.new 61, 3) := by decide +kernel
theorem d_Gr_get_10 : decode prog_1_method_8_code 10 = .ok (.dup, 1) := by decide +kernel
theorem d_Gr_get_11 : decode prog_1_method_8_code 11 = .ok (.invokespecial 63, 3) := by decide +kernel
theorem d_Gr_get_14 : decode prog_1_method_8_code 14 = .ok (.athrow, 1) := by decide +kernel
theorem d_Gr_get_15 : decode prog_1_method_8_code 15 = .ok (.aload_n 0, 1) := by decide +kernel
theorem d_Gr_get_16 : decode prog_1_method_8_code 16 = .ok (.iload_n 1, 1) := by decide +kernel
theorem d_Gr_get_17 : decode prog_1_method_8_code 17 = .ok (.invokevirtual 161, 3) := by decide +kernel
theorem d_Gr_get_20 : decode prog_1_method_8_code 20 = .ok (.ifCond .eq 20, 3) := by decide +kernel
theorem d_Gr_get_23 : decode prog_1_method_8_code 23 = .ok (.aload_n 0, 1) := by decide +kernel
theorem d_Gr_get_24 : decode prog_1_method_8_code 24 = .ok (.getfield 11, 3) := by decide +kernel
theorem d_Gr_get_27 : decode prog_1_method_8_code 27 = .ok (.iload_n 1, 1) := by decide +kernel
theorem d_Gr_get_28 : decode prog_1_method_8_code 28 = .ok (.aaload, 1) := by decide +kernel
theorem d_Gr_get_29 : decode prog_1_method_8_code 29 = .ok (.getfield 67, 3) := by decide +kernel
theorem d_Gr_get_32 : decode prog_1_method_8_code 32 = .ok (.iload_n 2, 1) := by decide +kernel
theorem d_Gr_get_33 : decode prog_1_method_8_code 33 = .ok (.iload_n 3, 1) := by decide +kernel
theorem d_Gr_get_34 : decode prog_1_method_8_code 34 = .ok (.invokevirtual 86, 3) := by decide +kernel
theorem d_Gr_get_37 : decode prog_1_method_8_code 37 = .ok (.ifCond .ne 11, 3) := by decide +kernel
theorem d_Gr_get_40 : decode prog_1_method_8_code 40 = .ok (.new 128, 3) := by decide +kernel
theorem d_Gr_get_43 : decode prog_1_method_8_code 43 = .ok (.dup, 1) := by decide +kernel
theorem d_Gr_get_44 : decode prog_1_method_8_code 44 = .ok (.invokespecial 130, 3) := by decide +kernel
theorem d_Gr_get_47 : decode prog_1_method_8_code 47 = .ok (.athrow, 1) := by decide +kernel
theorem d_Gr_get_48 : decode prog_1_method_8_code 48 = .ok (.aload_n 0, 1) := by decide +kernel
theorem d_Gr_get_49 : decode prog_1_method_8_code 49 = .ok (.getfield 11, 3) := by decide +kernel
theorem d_Gr_get_52 : decode prog_1_method_8_code 52 = .ok (.iload_n 1, 1) := by decide +kernel
theorem d_Gr_get_53 : decode prog_1_method_8_code 53 = .ok (.aaload, 1) := by decide +kernel
theorem d_Gr_get_54 : decode prog_1_method_8_code 54 = .ok (.getfield 67, 3) := by decide +kernel
theorem d_Gr_get_57 : decode prog_1_method_8_code 57 = .ok (.iload_n 2, 1) := by decide +kernel
theorem d_Gr_get_58 : decode prog_1_method_8_code 58 = .ok (.iload_n 3, 1) := by decide +kernel
theorem d_Gr_get_59 : decode prog_1_method_8_code 59 = .ok (.invokevirtual 164, 3) := by decide +kernel
theorem d_Gr_get_62 : decode prog_1_method_8_code 62 = .ok (.dreturn, 1) := by decide +kernel
theorem d_Gr_slot_0 : decode prog_1_method_9_code 0 = .ok (.iload_n 1, 1) := by decide +kernel
theorem d_Gr_slot_1 : decode prog_1_method_9_code 1 = .ok (.invokestatic 80, 3) := by decide +kernel
theorem d_Gr_slot_4 : decode prog_1_method_9_code 4 = .ok (.ifCond .eq 12, 3) := by decide +kernel
theorem d_Gr_slot_7 : decode prog_1_method_9_code 7 = .ok (.iload_n 2, 1) := by decide +kernel
theorem d_Gr_slot_8 : decode prog_1_method_9_code 8 = .ok (.ifCond .lt 8, 3) := by decide +kernel
theorem d_Gr_slot_11 : decode prog_1_method_9_code 11 = .ok (.iload_n 2, 1) := by decide +kernel
theorem d_Gr_slot_12 : decode prog_1_method_9_code 12 = .ok (.iconst 3, 1) := by decide +kernel
theorem d_Gr_slot_13 : decode prog_1_method_9_code 13 = .ok (.if_icmp .le 11, 3) := by decide +kernel
theorem d_Gr_slot_16 : decode prog_1_method_9_code 16 = .ok (.new 61, 3) := by decide +kernel
theorem d_Gr_slot_19 : decode prog_1_method_9_code 19 = .ok (.dup, 1) := by decide +kernel
theorem d_Gr_slot_20 : decode prog_1_method_9_code 20 = .ok (.invokespecial 63, 3) := by decide +kernel
theorem d_Gr_slot_23 : decode prog_1_method_9_code 23 = .ok (.athrow, 1) := by decide +kernel
theorem d_Gr_slot_24 : decode prog_1_method_9_code 24 = .ok (.iload_n 2, 1) := by decide +kernel
theorem d_Gr_slot_25 : decode prog_1_method_9_code 25 = .ok (.ifCond .ne 13, 3) := by decide +kernel
theorem d_Gr_slot_28 : decode prog_1_method_9_code 28 = .ok (.aload_n 0, 1) := by decide +kernel
theorem d_Gr_slot_29 : decode prog_1_method_9_code 29 = .ok (.getfield 11, 3) := by decide +kernel
theorem d_Gr_slot_32 : decode prog_1_method_9_code 32 = .ok (.iload_n 1, 1) := by decide +kernel
theorem d_Gr_slot_33 : decode prog_1_method_9_code 33 = .ok (.aaload, 1) := by decide +kernel
theorem d_Gr_slot_34 : decode prog_1_method_9_code 34 = .ok (.getfield 64, 3) := by decide +kernel
theorem d_Gr_slot_37 : decode prog_1_method_9_code 37 = .ok (.ireturn, 1) := by decide +kernel
theorem d_Gr_slot_38 : decode prog_1_method_9_code 38 = .ok (.aload_n 0, 1) := by decide +kernel
theorem d_Gr_slot_39 : decode prog_1_method_9_code 39 = .ok (.iload_n 1, 1) := by decide +kernel
theorem d_Gr_slot_40 : decode prog_1_method_9_code 40 = .ok (.invokevirtual 83, 3) := by decide +kernel
theorem d_Gr_slot_43 : decode prog_1_method_9_code 43 = .ok (.ifCond .ne 31, 3) := by decide +kernel
theorem d_Gr_slot_46 : decode prog_1_method_9_code 46 = .ok (.aload_n 0, 1) := by decide +kernel
theorem d_Gr_slot_47 : decode prog_1_method_9_code 47 = .ok (.getfield 11, 3) := by decide +kernel
theorem d_Gr_slot_50 : decode prog_1_method_9_code 50 = .ok (.iload_n 1, 1) := by decide +kernel
theorem d_Gr_slot_51 : decode prog_1_method_9_code 51 = .ok (.aaload, 1) := by decide +kernel
theorem d_Gr_slot_52 : decode prog_1_method_9_code 52 = .ok (.getfield 64, 3) := by decide +kernel
theorem d_Gr_slot_55 : decode prog_1_method_9_code 55 = .ok (.iconst 3, 1) := by decide +kernel
theorem d_Gr_slot_56 : decode prog_1_method_9_code 56 = .ok (.if_icmp .ne 10, 3) := by decide +kernel
theorem d_Gr_slot_59 : decode prog_1_method_9_code 59 = .ok (.aload_n 0, 1) := by decide +kernel
theorem d_Gr_slot_60 : decode prog_1_method_9_code 60 = .ok (.getfield 39, 3) := by decide +kernel
theorem d_Gr_slot_63 : decode prog_1_method_9_code 63 = .ok (.ifCond .ne 11, 3) := by decide +kernel
theorem d_Gr_slot_66 : decode prog_1_method_9_code 66 = .ok (.new 128, 3) := by decide +kernel
theorem d_Gr_slot_69 : decode prog_1_method_9_code 69 = .ok (.dup, 1) := by decide +kernel
theorem d_Gr_slot_70 : decode prog_1_method_9_code 70 = .ok (.invokespecial 130, 3) := by decide +kernel
theorem d_Gr_slot_73 : decode prog_1_method_9_code 73 = .ok (.athrow, 1) := by decide +kernel
theorem d_Gr_slot_74 : decode prog_1_method_9_code 74 = .ok (.aload_n 0, 1) := by decide +kernel
theorem d_Gr_slot_75 : decode prog_1_method_9_code 75 = .ok (.getfield 11, 3) := by decide +kernel
theorem d_Gr_slot_78 : decode prog_1_method_9_code 78 = .ok (.iload_n 1, 1) := by decide +kernel
theorem d_Gr_slot_79 : decode prog_1_method_9_code 79 = .ok (.aaload, 1) := by decide +kernel
theorem d_Gr_slot_80 : decode prog_1_method_9_code 80 = .ok (.getfield 67, 3) := by decide +kernel
theorem d_Gr_slot_83 : decode prog_1_method_9_code 83 = .ok (.astore_n 3, 1) := by decide +kernel
theorem d_Gr_slot_84 : decode prog_1_method_9_code 84 = .ok (.iload_n 2, 1) := by decide +kernel
theorem d_Gr_slot_85 : decode prog_1_method_9_code 85 = .ok (.iconst 1, 1) := by decide +kernel
theorem d_Gr_slot_86 : decode prog_1_method_9_code 86 = .ok (.if_icmp .ne 10, 3) := by decide +kernel
theorem d_Gr_slot_89 : decode prog_1_method_9_code 89 = .ok (.aload_n 3, 1) := by decide +kernel
theorem d_Gr_slot_90 : decode prog_1_method_9_code 90 = .ok (.getfield 90, 3) := by decide +kernel
theorem d_Gr_slot_93 : decode prog_1_method_9_code 93 = .ok (.goto 19, 3) := by decide +kernel
theorem d_Gr_slot_96 : decode prog_1_method_9_code 96 = .ok (.iload_n 2, 1) := by decide +kernel
theorem d_Gr_slot_97 : decode prog_1_method_9_code 97 = .ok (.iconst 2, 1) := by decide +kernel
theorem d_Gr_slot_98 : decode prog_1_method_9_code 98 = .ok (.if_icmp .ne 10, 3) := by decide +kernel
theorem d_Gr_slot_101 : decode prog_1_method_9_code 101 = .ok (.aload_n 3, 1) := by decide +kernel
theorem d_Gr_slot_102 : decode prog_1_method_9_code 102 = .ok (.getfield 168, 3) := by decide +kernel
theorem d_Gr_slot_105 : decode prog_1_method_9_code 105 = .ok (.goto 7, 3) := by decide +kernel
theorem d_Gr_slot_108 : decode prog_1_method_9_code 108 = .ok (.aload_n 3, 1) := by decide +kernel
theorem d_Gr_slot_109 : decode prog_1_method_9_code 109 = .ok (.getfield 171, 3) := by decide +kernel
theorem d_Gr_slot_112 : decode prog_1_method_9_code 112 = .ok (.ireturn, 1) := by decide +kernel
theorem d_Sh_find_0 : decode prog_3_method_2_code 0 = .ok (.aload_n 0, 1) := by decide +kernel
theorem d_Sh_find_1 : decode prog_3_method_2_code 1 = .ok (.getfield 9, 3) := by decide +kernel
theorem d_Sh_find_4 : decode prog_3_method_2_code 4 = .ok (.tableswitch 580 0 18 #[92, 92, 92, 92, 123, 165, 195, 213, 249, 277, 331, 331, 342, 354, 385, 447, 489, 522, 165], 92) := by decide +kernel
theorem d_Sh_find_96 : decode prog_3_method_2_code 96 = .ok (.aload_n 1, 1) := by decide +kernel
theorem d_Sh_find_97 : decode prog_3_method_2_code 97 = .ok (.getfield 15, 3) := by decide +kernel
theorem d_Sh_find_100 : decode prog_3_method_2_code 100 = .ok (.aload_n 2, 1) := by decide +kernel
theorem d_Sh_find_101 : decode prog_3_method_2_code 101 = .ok (.getfield 15, 3) := by decide +kernel
theorem d_Sh_find_104 : decode prog_3_method_2_code 104 = .ok (.if_icmp .ne 21, 3) := by decide +kernel
theorem d_Sh_find_107 : decode prog_3_method_2_code 107 = .ok (.aload_n 1, 1) := by decide +kernel
theorem d_Sh_find_108 : decode prog_3_method_2_code 108 = .ok (.aload_n 2, 1) := by decide +kernel
theorem d_Sh_find_109 : decode prog_3_method_2_code 109 = .ok (.aload_n 1, 1) := by decide +kernel
theorem d_Sh_find_110 : decode prog_3_method_2_code 110 = .ok (.getfield 15, 3) := by decide +kernel
theorem d_Sh_find_113 : decode prog_3_method_2_code 113 = .ok (.aload 4, 2) := by decide +kernel
theorem d_Sh_find_115 : decode prog_3_method_2_code 115 = .ok (.invokestatic 20, 3) := by decide +kernel
theorem d_Sh_find_118 : decode prog_3_method_2_code 118 = .ok (.ifCond .eq 7, 3) := by decide +kernel
theorem d_Sh_find_121 : decode prog_3_method_2_code 121 = .ok (.iconst 1, 1) := by decide +kernel
theorem d_Sh_find_122 : decode prog_3_method_2_code 122 = .ok (.goto 4, 3) := by decide +kernel
theorem d_Sh_find_125 : decode prog_3_method_2_code 125 = .ok (.iconst 0, 1) := by decide +kernel
theorem d_Sh_find_126 : decode prog_3_method_2_code 126 = .ok (.ireturn, 1) := by decide +kernel
theorem d_Sh_find_127 : decode prog_3_method_2_code 127 = .ok (.aload_n 1, 1) := by decide +kernel
theorem d_Sh_find_128 : decode prog_3_method_2_code 128 = .ok (.aload_n 2, 1) := by decide +kernel
theorem d_Sh_find_129 : decode prog_3_method_2_code 129 = .ok (.invokestatic 26, 3) := by decide +kernel
theorem d_Sh_find_132 : decode prog_3_method_2_code 132 = .ok (.ifCond .eq 35, 3) := by decide +kernel
theorem d_Sh_find_135 : decode prog_3_method_2_code 135 = .ok (.aload_n 1, 1) := by decide +kernel
theorem d_Sh_find_136 : decode prog_3_method_2_code 136 = .ok (.getfield 30, 3) := by decide +kernel
theorem d_Sh_find_139 : decode prog_3_method_2_code 139 = .ok (.aload_n 2, 1) := by decide +kernel
theorem d_Sh_find_140 : decode prog_3_method_2_code 140 = .ok (.getfield 33, 3) := by decide +kernel
theorem d_Sh_find_143 : decode prog_3_method_2_code 143 = .ok (.if_icmp .ne 24, 3) := by decide +kernel
theorem d_Sh_find_146 : decode prog_3_method_2_code 146 = .ok (.aload 4, 2) := by decide +kernel
theorem d_Sh_find_148 : decode prog_3_method_2_code 148 = .ok (.iconst 0, 1) := by decide +kernel
theorem d_Sh_find_149 : decode prog_3_method_2_code 149 = .ok (.aload_n 1, 1) := by decide +kernel
theorem d_Sh_find_150 : decode prog_3_method_2_code 150 = .ok (.getfield 33, 3) := by decide +kernel
theorem d_Sh_find_153 : decode prog_3_method_2_code 153 = .ok (.aload_n 2, 1) := by decide +kernel
theorem d_Sh_find_154 : decode prog_3_method_2_code 154 = .ok (.getfield 30, 3) := by decide +kernel
theorem d_Sh_find_157 : decode prog_3_method_2_code 157 = .ok (.invokevirtual 36, 3) := by decide +kernel
theorem d_Sh_find_160 : decode prog_3_method_2_code 160 = .ok (.ifCond .eq 7, 3) := by decide +kernel
theorem d_Sh_find_163 : decode prog_3_method_2_code 163 = .ok (.iconst 1, 1) := by decide +kernel
theorem d_Sh_find_164 : decode prog_3_method_2_code 164 = .ok (.goto 4, 3) := by decide +kernel
theorem d_Sh_find_167 : decode prog_3_method_2_code 167 = .ok (.iconst 0, 1) := by decide +kernel
theorem d_Sh_find_168 : decode prog_3_method_2_code 168 = .ok (.ireturn, 1) := by decide +kernel
theorem d_Sh_find_169 : decode prog_3_method_2_code 169 = .ok (.aload_n 1, 1) := by decide +kernel
theorem d_Sh_find_170 : decode prog_3_method_2_code 170 = .ok (.getfield 15, 3) := by decide +kernel
theorem d_Sh_find_173 : decode prog_3_method_2_code 173 = .ok (.ifCond .ne 24, 3) := by decide +kernel
theorem d_Sh_find_176 : decode prog_3_method_2_code 176 = .ok (.aload 4, 2) := by decide +kernel
theorem d_Sh_find_178 : decode prog_3_method_2_code 178 = .ok (.iconst 0, 1) := by decide +kernel
theorem d_Sh_find_179 : decode prog_3_method_2_code 179 = .ok (.aload_n 1, 1) := by decide +kernel
theorem d_Sh_find_180 : decode prog_3_method_2_code 180 = .ok (.getfield 33, 3) := by decide +kernel
theorem d_Sh_find_183 : decode prog_3_method_2_code 183 = .ok (.aload_n 1, 1) := by decide +kernel
theorem d_Sh_find_184 : decode prog_3_method_2_code 184 = .ok (.getfield 30, 3) := by decide +kernel
theorem d_Sh_find_187 : decode prog_3_method_2_code 187 = .ok (.invokevirtual 36, 3) := by decide +kernel
theorem d_Sh_find_190 : decode prog_3_method_2_code 190 = .ok (.ifCond .eq 7, 3) := by decide +kernel
theorem d_Sh_find_193 : decode prog_3_method_2_code 193 = .ok (.iconst 1, 1) := by decide +kernel
theorem d_Sh_find_194 : decode prog_3_method_2_code 194 = .ok (.goto 4, 3) := by decide +kernel
theorem d_Sh_find_197 : decode prog_3_method_2_code 197 = .ok (.iconst 0, 1) := by decide +kernel
theorem d_Sh_find_198 : decode prog_3_method_2_code 198 = .ok (.ireturn, 1) := by decide +kernel
theorem d_Sh_find_199 : decode prog_3_method_2_code 199 = .ok (.aload 4, 2) := by decide +kernel
theorem d_Sh_find_201 : decode prog_3_method_2_code 201 = .ok (.aload_n 1, 1) := by decide +kernel
theorem d_Sh_find_202 : decode prog_3_method_2_code 202 = .ok (.getfield 15, 3) := by decide +kernel
theorem d_Sh_find_205 : decode prog_3_method_2_code 205 = .ok (.aload_n 1, 1) := by decide +kernel
theorem d_Sh_find_206 : decode prog_3_method_2_code 206 = .ok (.getfield 30, 3) := by decide +kernel
theorem d_Sh_find_209 : decode prog_3_method_2_code 209 = .ok (.aload_n 1, 1) := by decide +kernel
theorem d_Sh_find_210 : decode prog_3_method_2_code 210 = .ok (.getfield 33, 3) := by decide +kernel
theorem d_Sh_find_213 : decode prog_3_method_2_code 213 = .ok (.invokevirtual 36, 3) := by decide +kernel
theorem d_Sh_find_216 : decode prog_3_method_2_code 216 = .ok (.ireturn, 1) := by decide +kernel
theorem d_Sh_find_217 : decode prog_3_method_2_code 217 = .ok (.aload_n 0, 1) := by decide +kernel
theorem d_Sh_find_218 : decode prog_3_method_2_code 218 = .ok (.getfield 40, 3) := by decide +kernel
theorem d_Sh_find_221 : decode prog_3_method_2_code 221 = .ok (.invokestatic 43, 3) := by decide +kernel
theorem d_Sh_find_224 : decode prog_3_method_2_code 224 = .ok (.ifCond .eq 27, 3) := by decide +kernel
theorem d_Sh_find_227 : decode prog_3_method_2_code 227 = .ok (.aload 4, 2) := by decide +kernel
theorem d_Sh_find_229 : decode prog_3_method_2_code 229 = .ok (.aload_n 0, 1) := by decide +kernel
theorem d_Sh_find_230 : decode prog_3_method_2_code 230 = .ok (.getfield 40, 3) := by decide +kernel
theorem d_Sh_find_233 : decode prog_3_method_2_code 233 = .ok (.aload_n 1, 1) := by decide +kernel
theorem d_Sh_find_234 : decode prog_3_method_2_code 234 = .ok (.getfield 33, 3) := by decide +kernel
theorem d_Sh_find_237 : decode prog_3_method_2_code 237 = .ok (.aload_n 1, 1) := by decide +kernel
theorem d_Sh_find_238 : decode prog_3_method_2_code 238 = .ok (.getfield 30, 3) := by decide +kernel
theorem d_Sh_find_241 : decode prog_3_method_2_code 241 = .ok (.invokevirtual 36, 3) := by decide +kernel
theorem d_Sh_find_244 : decode prog_3_method_2_code 244 = .ok (.ifCond .eq 7, 3) := by decide +kernel
theorem d_Sh_find_247 : decode prog_3_method_2_code 247 = .ok (.iconst 1, 1) := by decide +kernel
theorem d_Sh_find_248 : decode prog_3_method_2_code 248 = .ok (.goto 4, 3) := by decide +kernel
theorem d_Sh_find_251 : decode prog_3_method_2_code 251 = .ok (.iconst 0, 1) := by decide +kernel
theorem d_Sh_find_252 : decode prog_3_method_2_code 252 = .ok (.ireturn, 1) := by decide +kernel
theorem d_Sh_find_253 : decode prog_3_method_2_code 253 = .ok (.aload_n 1, 1) := by decide +kernel
theorem d_Sh_find_254 : decode prog_3_method_2_code 254 = .ok (.getfield 15, 3) := by decide +kernel
theorem d_Sh_find_257 : decode prog_3_method_2_code 257 = .ok (.aload_n 2, 1) := by decide +kernel
theorem d_Sh_find_258 : decode prog_3_method_2_code 258 = .ok (.getfield 15, 3) := by decide +kernel
theorem d_Sh_find_261 : decode prog_3_method_2_code 261 = .ok (.if_icmp .ne 18, 3) := by decide +kernel
theorem d_Sh_find_264 : decode prog_3_method_2_code 264 = .ok (.aload_n 1, 1) := by decide +kernel
theorem d_Sh_find_265 : decode prog_3_method_2_code 265 = .ok (.aload_n 2, 1) := by decide +kernel
theorem d_Sh_find_266 : decode prog_3_method_2_code 266 = .ok (.iconst 1, 1) := by decide +kernel
theorem d_Sh_find_267 : decode prog_3_method_2_code 267 = .ok (.aload 4, 2) := by decide +kernel
theorem d_Sh_find_269 : decode prog_3_method_2_code 269 = .ok (.invokestatic 20, 3) := by decide +kernel
theorem d_Sh_find_272 : decode prog_3_method_2_code 272 = .ok (.ifCond .eq 7, 3) := by decide +kernel
theorem d_Sh_find_275 : decode prog_3_method_2_code 275 = .ok (.iconst 1, 1) := by decide +kernel
theorem d_Sh_find_276 : decode prog_3_method_2_code 276 = .ok (.goto 4, 3) := by decide +kernel
theorem d_Sh_find_279 : decode prog_3_method_2_code 279 = .ok (.iconst 0, 1) := by decide +kernel
theorem d_Sh_find_280 : decode prog_3_method_2_code 280 = .ok (.ireturn, 1) := by decide +kernel
theorem d_Sh_find_281 : decode prog_3_method_2_code 281 = .ok (.aload_n 3, 1) := by decide +kernel
theorem d_Sh_find_282 : decode prog_3_method_2_code 282 = .ok (.getfield 15, 3) := by decide +kernel
theorem d_Sh_find_285 : decode prog_3_method_2_code 285 = .ok (.iconst 1, 1) := by decide +kernel
theorem d_Sh_find_286 : decode prog_3_method_2_code 286 = .ok (.if_icmp .ne 47, 3) := by decide +kernel
theorem d_Sh_find_289 : decode prog_3_method_2_code 289 = .ok (.aload_n 1, 1) := by decide +kernel
