theorem d_Mo_missing_66 : decode prog_8_method_33_code 66 = .ok (.iaload, 1) := by decide +kernel
theorem d_Mo_missing_67 : decode prog_8_method_33_code 67 = .ok (.istore_n 3, 1) := by decide +kernel
theorem d_Mo_missing_68 : decode prog_8_method_33_code 68 = .ok (.aload_n 0, 1) := by decide +kernel
theorem d_Mo_missing_69 : decode prog_8_method_33_code 69 = .ok (.iload_n 3, 1) := by decide +kernel
theorem d_Mo_missing_70 : decode prog_8_method_33_code 70 = .ok (.invokevirtual 165, 3) := by decide +kernel
theorem d_Mo_missing_73 : decode prog_8_method_33_code 73 = .ok (.ifCond .eq 7, 3) := by decide +kernel
theorem d_Mo_missing_76 : decode prog_8_method_33_code 76 = .ok (.iconst (-1), 1) := by decide +kernel
theorem d_Mo_missing_77 : decode prog_8_method_33_code 77 = .ok (.goto 4, 3) := by decide +kernel
theorem d_Mo_missing_80 : decode prog_8_method_33_code 80 = .ok (.iload_n 3, 1) := by decide +kernel
theorem d_Mo_missing_81 : decode prog_8_method_33_code 81 = .ok (.ireturn, 1) := by decide +kernel
theorem d_Mo_missing_82 : decode prog_8_method_33_code 82 = .ok (.iconst 0, 1) := by decide +kernel
theorem d_Mo_missing_83 : decode prog_8_method_33_code 83 = .ok (.istore_n 2, 1) := by decide +kernel
theorem d_Mo_missing_84 : decode prog_8_method_33_code 84 = .ok (.iload_n 2, 1) := by decide +kernel
theorem d_Mo_missing_85 : decode prog_8_method_33_code 85 = .ok (.aload_n 0, 1) := by decide +kernel
theorem d_Mo_missing_86 : decode prog_8_method_33_code 86 = .ok (.aload_n 0, 1) := by decide +kernel
theorem d_Mo_missing_87 : decode prog_8_method_33_code 87 = .ok (.getfield 29, 3) := by decide +kernel
theorem d_Mo_missing_90 : decode prog_8_method_33_code 90 = .ok (.iload_n 1, 1) := by decide +kernel
theorem d_Mo_missing_91 : decode prog_8_method_33_code 91 = .ok (.iaload, 1) := by decide +kernel
theorem d_Mo_missing_92 : decode prog_8_method_33_code 92 = .ok (.invokevirtual 78, 3) := by decide +kernel
theorem d_Mo_missing_95 : decode prog_8_method_33_code 95 = .ok (.if_icmp .ge 37, 3) := by decide +kernel
theorem d_Mo_missing_98 : decode prog_8_method_33_code 98 = .ok (.aload_n 0, 1) := by decide +kernel
theorem d_Mo_missing_99 : decode prog_8_method_33_code 99 = .ok (.aload_n 0, 1) := by decide +kernel
theorem d_Mo_missing_100 : decode prog_8_method_33_code 100 = .ok (.getfield 47, 3) := by decide +kernel
theorem d_Mo_missing_103 : decode prog_8_method_33_code 103 = .ok (.iload_n 1, 1) := by decide +kernel
theorem d_Mo_missing_104 : decode prog_8_method_33_code 104 = .ok (.iconst 3, 1) := by decide +kernel
theorem d_Mo_missing_105 : decode prog_8_method_33_code 105 = .ok (.imul, 1) := by decide +kernel
theorem d_Mo_missing_106 : decode prog_8_method_33_code 106 = .ok (.iload_n 2, 1) := by decide +kernel
theorem d_Mo_missing_107 : decode prog_8_method_33_code 107 = .ok (.iadd, 1) := by decide +kernel
theorem d_Mo_missing_108 : decode prog_8_method_33_code 108 = .ok (.iaload, 1) := by decide +kernel
theorem d_Mo_missing_109 : decode prog_8_method_33_code 109 = .ok (.invokevirtual 165, 3) := by decide +kernel
theorem d_Mo_missing_112 : decode prog_8_method_33_code 112 = .ok (.ifCond .ne 14, 3) := by decide +kernel
theorem d_Mo_missing_115 : decode prog_8_method_33_code 115 = .ok (.aload_n 0, 1) := by decide +kernel
theorem d_Mo_missing_116 : decode prog_8_method_33_code 116 = .ok (.getfield 47, 3) := by decide +kernel
theorem d_Mo_missing_119 : decode prog_8_method_33_code 119 = .ok (.iload_n 1, 1) := by decide +kernel
theorem d_Mo_missing_120 : decode prog_8_method_33_code 120 = .ok (.iconst 3, 1) := by decide +kernel
theorem d_Mo_missing_121 : decode prog_8_method_33_code 121 = .ok (.imul, 1) := by decide +kernel
theorem d_Mo_missing_122 : decode prog_8_method_33_code 122 = .ok (.iload_n 2, 1) := by decide +kernel
theorem d_Mo_missing_123 : decode prog_8_method_33_code 123 = .ok (.iadd, 1) := by decide +kernel
theorem d_Mo_missing_124 : decode prog_8_method_33_code 124 = .ok (.iaload, 1) := by decide +kernel
theorem d_Mo_missing_125 : decode prog_8_method_33_code 125 = .ok (.ireturn, 1) := by decide +kernel
theorem d_Mo_missing_126 : decode prog_8_method_33_code 126 = .ok (.iinc 2 1, 3) := by decide +kernel
theorem d_Mo_missing_129 : decode prog_8_method_33_code 129 = .ok (.goto (-45), 3) := by decide +kernel
theorem d_Mo_missing_132 : decode prog_8_method_33_code 132 = .ok (.iconst (-1), 1) := by decide +kernel
theorem d_Mo_missing_133 : decode prog_8_method_33_code 133 = .ok (.ireturn, 1) := by decide +kernel
theorem d_Mo_get_0 : decode prog_8_method_36_code 0 = .ok (.aload_n 0, 1) := by decide +kernel
theorem d_Mo_get_1 : decode prog_8_method_36_code 1 = .ok (.aload_n 0, 1) := by decide +kernel
theorem d_Mo_get_2 : decode prog_8_method_36_code 2 = .ok (.iload_n 1, 1) := by decide +kernel
theorem d_Mo_get_3 : decode prog_8_method_36_code 3 = .ok (.invokevirtual 64, 3) := by decide +kernel
theorem d_Mo_get_6 : decode prog_8_method_36_code 6 = .ok (.ifCond .eq 7, 3) := by decide +kernel
theorem d_Mo_get_9 : decode prog_8_method_36_code 9 = .ok (.iconst 1, 1) := by decide +kernel
theorem d_Mo_get_10 : decode prog_8_method_36_code 10 = .ok (.goto 4, 3) := by decide +kernel
theorem d_Mo_get_13 : decode prog_8_method_36_code 13 = .ok (.iconst 0, 1) := by decide +kernel
theorem d_Mo_get_14 : decode prog_8_method_36_code 14 = .ok (.putfield 57, 3) := by decide +kernel
theorem d_Mo_get_17 : decode prog_8_method_36_code 17 = .ok (.aload_n 0, 1) := by decide +kernel
theorem d_Mo_get_18 : decode prog_8_method_36_code 18 = .ok (.getfield 57, 3) := by decide +kernel
theorem d_Mo_get_21 : decode prog_8_method_36_code 21 = .ok (.ifCond .eq 5, 3) := by decide +kernel
theorem d_Mo_get_24 : decode prog_8_method_36_code 24 = .ok (.dconst 0, 1) := by decide +kernel
theorem d_Mo_get_25 : decode prog_8_method_36_code 25 = .ok (.dreturn, 1) := by decide +kernel
theorem d_Mo_get_26 : decode prog_8_method_36_code 26 = .ok (.aload_n 0, 1) := by decide +kernel
theorem d_Mo_get_27 : decode prog_8_method_36_code 27 = .ok (.getfield 7, 3) := by decide +kernel
theorem d_Mo_get_30 : decode prog_8_method_36_code 30 = .ok (.iload_n 1, 1) := by decide +kernel
theorem d_Mo_get_31 : decode prog_8_method_36_code 31 = .ok (.iaload, 1) := by decide +kernel
theorem d_Mo_get_32 : decode prog_8_method_36_code 32 = .ok (.iconst 1, 1) := by decide +kernel
theorem d_Mo_get_33 : decode prog_8_method_36_code 33 = .ok (.if_icmp .eq 37, 3) := by decide +kernel
theorem d_Mo_get_36 : decode prog_8_method_36_code 36 = .ok (.aload_n 0, 1) := by decide +kernel
theorem d_Mo_get_37 : decode prog_8_method_36_code 37 = .ok (.getfield 7, 3) := by decide +kernel
theorem d_Mo_get_40 : decode prog_8_method_36_code 40 = .ok (.iload_n 1, 1) := by decide +kernel
theorem d_Mo_get_41 : decode prog_8_method_36_code 41 = .ok (.iaload, 1) := by decide +kernel
theorem d_Mo_get_42 : decode prog_8_method_36_code 42 = .ok (.iconst 2, 1) := by decide +kernel
theorem d_Mo_get_43 : decode prog_8_method_36_code 43 = .ok (.if_icmp .eq 27, 3) := by decide +kernel
theorem d_Mo_get_46 : decode prog_8_method_36_code 46 = .ok (.aload_n 0, 1) := by decide +kernel
theorem d_Mo_get_47 : decode prog_8_method_36_code 47 = .ok (.getfield 7, 3) := by decide +kernel
theorem d_Mo_get_50 : decode prog_8_method_36_code 50 = .ok (.iload_n 1, 1) := by decide +kernel
theorem d_Mo_get_51 : decode prog_8_method_36_code 51 = .ok (.iaload, 1) := by decide +kernel
theorem d_Mo_get_52 : decode prog_8_method_36_code 52 = .ok (.iconst 3, 1) := by decide +kernel
theorem d_Mo_get_53 : decode prog_8_method_36_code 53 = .ok (.if_icmp .ne 21, 3) := by decide +kernel
theorem d_Mo_get_56 : decode prog_8_method_36_code 56 = .ok (.aload_n 0, 1) := by decide +kernel
theorem d_Mo_get_57 : decode prog_8_method_36_code 57 = .ok (.getfield 41, 3) := by decide +kernel
theorem d_Mo_get_60 : decode prog_8_method_36_code 60 = .ok (.aload_n 0, 1) := by decide +kernel
theorem d_Mo_get_61 : decode prog_8_method_36_code 61 = .ok (.getfield 22, 3) := by decide +kernel
theorem d_Mo_get_64 : decode prog_8_method_36_code 64 = .ok (.iload_n 1, 1) := by decide +kernel
theorem d_Mo_get_65 : decode prog_8_method_36_code 65 = .ok (.iaload, 1) := by decide +kernel
theorem d_Mo_get_66 : decode prog_8_method_36_code 66 = .ok (.iaload, 1) := by decide +kernel
theorem d_Mo_get_67 : decode prog_8_method_36_code 67 = .ok (.ifCond .eq 7, 3) := by decide +kernel
theorem d_Mo_get_70 : decode prog_8_method_36_code 70 = .ok (.iconst 1, 1) := by decide +kernel
theorem d_Mo_get_71 : decode prog_8_method_36_code 71 = .ok (.goto 4, 3) := by decide +kernel
theorem d_Mo_get_74 : decode prog_8_method_36_code 74 = .ok (.iconst 0, 1) := by decide +kernel
theorem d_Mo_get_75 : decode prog_8_method_36_code 75 = .ok (.istore 4, 2) := by decide +kernel
theorem d_Mo_get_77 : decode prog_8_method_36_code 77 = .ok (.iload 4, 2) := by decide +kernel
theorem d_Mo_get_79 : decode prog_8_method_36_code 79 = .ok (.ifCond .eq 31, 3) := by decide +kernel
theorem d_Mo_get_82 : decode prog_8_method_36_code 82 = .ok (.iload_n 2, 1) := by decide +kernel
theorem d_Mo_get_83 : decode prog_8_method_36_code 83 = .ok (.ifCond .lt 27, 3) := by decide +kernel
theorem d_Mo_get_86 : decode prog_8_method_36_code 86 = .ok (.iload_n 3, 1) := by decide +kernel
theorem d_Mo_get_87 : decode prog_8_method_36_code 87 = .ok (.ifCond .lt 23, 3) := by decide +kernel
theorem d_Mo_get_90 : decode prog_8_method_36_code 90 = .ok (.iload_n 2, 1) := by decide +kernel
theorem d_Mo_get_91 : decode prog_8_method_36_code 91 = .ok (.aload_n 0, 1) := by decide +kernel
theorem d_Mo_get_92 : decode prog_8_method_36_code 92 = .ok (.getfield 16, 3) := by decide +kernel
theorem d_Mo_get_95 : decode prog_8_method_36_code 95 = .ok (.iload_n 1, 1) := by decide +kernel
theorem d_Mo_get_96 : decode prog_8_method_36_code 96 = .ok (.iaload, 1) := by decide +kernel
theorem d_Mo_get_97 : decode prog_8_method_36_code 97 = .ok (.if_icmp .ge 13, 3) := by decide +kernel
theorem d_Mo_get_100 : decode prog_8_method_36_code 100 = .ok (.iload_n 3, 1) := by decide +kernel
theorem d_Mo_get_101 : decode prog_8_method_36_code 101 = .ok (.aload_n 0, 1) := by decide +kernel
theorem d_Mo_get_102 : decode prog_8_method_36_code 102 = .ok (.getfield 19, 3) := by decide +kernel
theorem d_Mo_get_105 : decode prog_8_method_36_code 105 = .ok (.iload_n 1, 1) := by decide +kernel
theorem d_Mo_get_106 : decode prog_8_method_36_code 106 = .ok (.iaload, 1) := by decide +kernel
theorem d_Mo_get_107 : decode prog_8_method_36_code 107 = .ok (.if_icmp .lt 10, 3) := by decide +kernel
theorem d_Mo_get_110 : decode prog_8_method_36_code 110 = .ok (.aload_n 0, 1) := by decide +kernel
theorem d_Mo_get_111 : decode prog_8_method_36_code 111 = .ok (.iconst 2, 1) := by decide +kernel
theorem d_Mo_get_112 : decode prog_8_method_36_code 112 = .ok (.putfield 57, 3) := by decide +kernel
theorem d_Mo_get_115 : decode prog_8_method_36_code 115 = .ok (.dconst 0, 1) := by decide +kernel
theorem d_Mo_get_116 : decode prog_8_method_36_code 116 = .ok (.dreturn, 1) := by decide +kernel
theorem d_Mo_get_117 : decode prog_8_method_36_code 117 = .ok (.aload_n 0, 1) := by decide +kernel
theorem d_Mo_get_118 : decode prog_8_method_36_code 118 = .ok (.getfield 25, 3) := by decide +kernel
theorem d_Mo_get_121 : decode prog_8_method_36_code 121 = .ok (.iload_n 1, 1) := by decide +kernel
theorem d_Mo_get_122 : decode prog_8_method_36_code 122 = .ok (.bipush 16, 2) := by decide +kernel
theorem d_Mo_get_124 : decode prog_8_method_36_code 124 = .ok (.imul, 1) := by decide +kernel
theorem d_Mo_get_125 : decode prog_8_method_36_code 125 = .ok (.iload_n 2, 1) := by decide +kernel
theorem d_Mo_get_126 : decode prog_8_method_36_code 126 = .ok (.iconst 4, 1) := by decide +kernel
theorem d_Mo_get_127 : decode prog_8_method_36_code 127 = .ok (.imul, 1) := by decide +kernel
theorem d_Mo_get_128 : decode prog_8_method_36_code 128 = .ok (.iadd, 1) := by decide +kernel
theorem d_Mo_get_129 : decode prog_8_method_36_code 129 = .ok (.iload_n 3, 1) := by decide +kernel
theorem d_Mo_get_130 : decode prog_8_method_36_code 130 = .ok (.iadd, 1) := by decide +kernel
theorem d_Mo_get_131 : decode prog_8_method_36_code 131 = .ok (.daload, 1) := by decide +kernel
theorem d_Mo_get_132 : decode prog_8_method_36_code 132 = .ok (.dreturn, 1) := by decide +kernel
theorem d_Mo_slot_0 : decode prog_8_method_37_code 0 = .ok (.aload_n 0, 1) := by decide +kernel
theorem d_Mo_slot_1 : decode prog_8_method_37_code 1 = .ok (.aload_n 0, 1) := by decide +kernel
theorem d_Mo_slot_2 : decode prog_8_method_37_code 2 = .ok (.iload_n 1, 1) := by decide +kernel
theorem d_Mo_slot_3 : decode prog_8_method_37_code 3 = .ok (.invokevirtual 64, 3) := by decide +kernel
theorem d_Mo_slot_6 : decode prog_8_method_37_code 6 = .ok (.ifCond .ne 13, 3) := by decide +kernel
theorem d_Mo_slot_9 : decode prog_8_method_37_code 9 = .ok (.aload_n 0, 1) := by decide +kernel
theorem d_Mo_slot_10 : decode prog_8_method_37_code 10 = .ok (.iload_n 2, 1) := by decide +kernel
theorem d_Mo_slot_11 : decode prog_8_method_37_code 11 = .ok (.iconst 0, 1) := by decide +kernel
theorem d_Mo_slot_12 : decode prog_8_method_37_code 12 = .ok (.iconst 3, 1) := by decide +kernel
theorem d_Mo_slot_13 : decode prog_8_method_37_code 13 = .ok (.invokevirtual 68, 3) := by decide +kernel
theorem d_Mo_slot_16 : decode prog_8_method_37_code 16 = .ok (.ifCond .eq 7, 3) := by decide +kernel
theorem d_Mo_slot_19 : decode prog_8_method_37_code 19 = .ok (.iconst 1, 1) := by decide +kernel
theorem d_Mo_slot_20 : decode prog_8_method_37_code 20 = .ok (.goto 38, 3) := by decide +kernel
theorem d_Mo_slot_23 : decode prog_8_method_37_code 23 = .ok (.iload_n 2, 1) := by decide +kernel
theorem d_Mo_slot_24 : decode prog_8_method_37_code 24 = .ok (.ifCond .le 33, 3) := by decide +kernel
theorem d_Mo_slot_27 : decode prog_8_method_37_code 27 = .ok (.aload_n 0, 1) := by decide +kernel
theorem d_Mo_slot_28 : decode prog_8_method_37_code 28 = .ok (.getfield 7, 3) := by decide +kernel
theorem d_Mo_slot_31 : decode prog_8_method_37_code 31 = .ok (.iload_n 1, 1) := by decide +kernel
theorem d_Mo_slot_32 : decode prog_8_method_37_code 32 = .ok (.iaload, 1) := by decide +kernel
theorem d_Mo_slot_33 : decode prog_8_method_37_code 33 = .ok (.ifCond .eq 20, 3) := by decide +kernel
theorem d_Mo_slot_36 : decode prog_8_method_37_code 36 = .ok (.aload_n 0, 1) := by decide +kernel
theorem d_Mo_slot_37 : decode prog_8_method_37_code 37 = .ok (.getfield 7, 3) := by decide +kernel
theorem d_Mo_slot_40 : decode prog_8_method_37_code 40 = .ok (.iload_n 1, 1) := by decide +kernel
theorem d_Mo_slot_41 : decode prog_8_method_37_code 41 = .ok (.iaload, 1) := by decide +kernel
theorem d_Mo_slot_42 : decode prog_8_method_37_code 42 = .ok (.iconst 3, 1) := by decide +kernel
theorem d_Mo_slot_43 : decode prog_8_method_37_code 43 = .ok (.if_icmp .ne 14, 3) := by decide +kernel
theorem d_Mo_slot_46 : decode prog_8_method_37_code 46 = .ok (.aload_n 0, 1) := by decide +kernel
theorem d_Mo_slot_47 : decode prog_8_method_37_code 47 = .ok (.getfield 53, 3) := by decide +kernel
theorem d_Mo_slot_50 : decode prog_8_method_37_code 50 = .ok (.ifCond .ne 7, 3) := by decide +kernel
theorem d_Mo_slot_53 : decode prog_8_method_37_code 53 = .ok (.iconst 2, 1) := by decide +kernel
theorem d_Mo_slot_54 : decode prog_8_method_37_code 54 = .ok (.goto 4, 3) := by decide +kernel
theorem d_Mo_slot_57 : decode prog_8_method_37_code 57 = .ok (.iconst 0, 1) := by decide +kernel
theorem d_Mo_slot_58 : decode prog_8_method_37_code 58 = .ok (.putfield 57, 3) := by decide +kernel
theorem d_Mo_slot_61 : decode prog_8_method_37_code 61 = .ok (.aload_n 0, 1) := by decide +kernel
theorem d_Mo_slot_62 : decode prog_8_method_37_code 62 = .ok (.getfield 57, 3) := by decide +kernel
theorem d_Mo_slot_65 : decode prog_8_method_37_code 65 = .ok (.ifCond .eq 5, 3) := by decide +kernel
theorem d_Mo_slot_68 : decode prog_8_method_37_code 68 = .ok (.iconst 0, 1) := by decide +kernel
theorem d_Mo_slot_69 : decode prog_8_method_37_code 69 = .ok (.ireturn, 1) := by decide +kernel
theorem d_Mo_slot_70 : decode prog_8_method_37_code 70 = .ok (.iload_n 2, 1) := by decide +kernel
theorem d_Mo_slot_71 : decode prog_8_method_37_code 71 = .ok (.ifCond .ne 10, 3) := by decide +kernel
theorem d_Mo_slot_74 : decode prog_8_method_37_code 74 = .ok (.aload_n 0, 1) := by decide +kernel
theorem d_Mo_slot_75 : decode prog_8_method_37_code 75 = .ok (.getfield 7, 3) := by decide +kernel
theorem d_Mo_slot_78 : decode prog_8_method_37_code 78 = .ok (.iload_n 1, 1) := by decide +kernel
theorem d_Mo_slot_79 : decode prog_8_method_37_code 79 = .ok (.iaload, 1) := by decide +kernel
theorem d_Mo_slot_80 : decode prog_8_method_37_code 80 = .ok (.ireturn, 1) := by decide +kernel
theorem d_Mo_slot_81 : decode prog_8_method_37_code 81 = .ok (.iload_n 2, 1) := by decide +kernel
theorem d_Mo_slot_82 : decode prog_8_method_37_code 82 = .ok (.iconst 1, 1) := by decide +kernel
theorem d_Mo_slot_83 : decode prog_8_method_37_code 83 = .ok (.if_icmp .ne 12, 3) := by decide +kernel
theorem d_Mo_slot_86 : decode prog_8_method_37_code 86 = .ok (.aload_n 0, 1) := by decide +kernel
theorem d_Mo_slot_87 : decode prog_8_method_37_code 87 = .ok (.getfield 13, 3) := by decide +kernel
theorem d_Mo_slot_90 : decode prog_8_method_37_code 90 = .ok (.iload_n 1, 1) := by decide +kernel
theorem d_Mo_slot_91 : decode prog_8_method_37_code 91 = .ok (.iaload, 1) := by decide +kernel
theorem d_Mo_slot_92 : decode prog_8_method_37_code 92 = .ok (.goto 23, 3) := by decide +kernel
theorem d_Mo_slot_95 : decode prog_8_method_37_code 95 = .ok (.iload_n 2, 1) := by decide +kernel
theorem d_Mo_slot_96 : decode prog_8_method_37_code 96 = .ok (.iconst 2, 1) := by decide +kernel
theorem d_Mo_slot_97 : decode prog_8_method_37_code 97 = .ok (.if_icmp .ne 12, 3) := by decide +kernel
theorem d_Mo_slot_100 : decode prog_8_method_37_code 100 = .ok (.aload_n 0, 1) := by decide +kernel
theorem d_Mo_slot_101 : decode prog_8_method_37_code 101 = .ok (.getfield 16, 3) := by decide +kernel
theorem d_Mo_slot_104 : decode prog_8_method_37_code 104 = .ok (.iload_n 1, 1) := by decide +kernel
theorem d_Mo_slot_105 : decode prog_8_method_37_code 105 = .ok (.iaload, 1) := by decide +kernel
theorem d_Mo_slot_106 : decode prog_8_method_37_code 106 = .ok (.goto 9, 3) := by decide +kernel
theorem d_Mo_slot_109 : decode prog_8_method_37_code 109 = .ok (.aload_n 0, 1) := by decide +kernel
theorem d_Mo_slot_110 : decode prog_8_method_37_code 110 = .ok (.getfield 19, 3) := by decide +kernel
theorem d_Mo_slot_113 : decode prog_8_method_37_code 113 = .ok (.iload_n 1, 1) := by decide +kernel
theorem d_Mo_slot_114 : decode prog_8_method_37_code 114 = .ok (.iaload, 1) := by decide +kernel
theorem d_Mo_slot_115 : decode prog_8_method_37_code 115 = .ok (.ireturn, 1) := by decide +kernel
theorem d_Mo_count_0 : decode prog_8_method_38_code 0 = .ok (.aload_n 0, 1) := by decide +kernel
theorem d_Mo_count_1 : decode prog_8_method_38_code 1 = .ok (.iconst 0, 1) := by decide +kernel
theorem d_Mo_count_2 : decode prog_8_method_38_code 2 = .ok (.putfield 57, 3) := by decide +kernel
theorem d_Mo_count_5 : decode prog_8_method_38_code 5 = .ok (.iconst 0, 1) := by decide +kernel
theorem d_Mo_count_6 : decode prog_8_method_38_code 6 = .ok (.istore_n 2, 1) := by decide +kernel
theorem d_Mo_count_7 : decode prog_8_method_38_code 7 = .ok (.iconst 0, 1) := by decide +kernel
theorem d_Mo_count_8 : decode prog_8_method_38_code 8 = .ok (.istore_n 3, 1) := by decide +kernel
theorem d_Mo_count_9 : decode prog_8_method_38_code 9 = .ok (.iload_n 3, 1) := by decide +kernel
theorem d_Mo_count_10 : decode prog_8_method_38_code 10 = .ok (.aload_n 0, 1) := by decide +kernel
theorem d_Mo_count_11 : decode prog_8_method_38_code 11 = .ok (.getfield 82, 3) := by decide +kernel
theorem d_Mo_count_14 : decode prog_8_method_38_code 14 = .ok (.if_icmp .ge 22, 3) := by decide +kernel
theorem d_Mo_count_17 : decode prog_8_method_38_code 17 = .ok (.aload_n 0, 1) := by decide +kernel
theorem d_Mo_count_18 : decode prog_8_method_38_code 18 = .ok (.getfield 41, 3) := by decide +kernel
theorem d_Mo_count_21 : decode prog_8_method_38_code 21 = .ok (.iload_n 3, 1) := by decide +kernel
theorem d_Mo_count_22 : decode prog_8_method_38_code 22 = .ok (.iaload, 1) := by decide +kernel
theorem d_Mo_count_23 : decode prog_8_method_38_code 23 = .ok (.iconst 2, 1) := by decide +kernel
theorem d_Mo_count_24 : decode prog_8_method_38_code 24 = .ok (.if_icmp .ne 6, 3) := by decide +kernel
theorem d_Mo_count_27 : decode prog_8_method_38_code 27 = .ok (.iinc 2 1, 3) := by decide +kernel
theorem d_Mo_count_30 : decode prog_8_method_38_code 30 = .ok (.iinc 3 1, 3) := by decide +kernel
theorem d_Mo_count_33 : decode prog_8_method_38_code 33 = .ok (.goto (-24), 3) := by decide +kernel
theorem d_Mo_count_36 : decode prog_8_method_38_code 36 = .ok (.iload_n 1, 1) := by decide +kernel
theorem d_Mo_count_37 : decode prog_8_method_38_code 37 = .ok (.tableswitch 74 0 5 #[39, 44, 57, 62, 64, 69], 39) := by decide +kernel
theorem d_Mo_count_76 : decode prog_8_method_38_code 76 = .ok (.aload_n 0, 1) := by decide +kernel
theorem d_Mo_count_77 : decode prog_8_method_38_code 77 = .ok (.getfield 82, 3) := by decide +kernel
theorem d_Mo_count_80 : decode prog_8_method_38_code 80 = .ok (.ireturn, 1) := by decide +kernel
theorem d_Mo_count_81 : decode prog_8_method_38_code 81 = .ok (.aload_n 0, 1) := by decide +kernel
theorem d_Mo_count_82 : decode prog_8_method_38_code 82 = .ok (.getfield 53, 3) := by decide +kernel
theorem d_Mo_count_85 : decode prog_8_method_38_code 85 = .ok (.ifCond .eq 7, 3) := by decide +kernel
theorem d_Mo_count_88 : decode prog_8_method_38_code 88 = .ok (.iconst 1, 1) := by decide +kernel
theorem d_Mo_count_89 : decode prog_8_method_38_code 89 = .ok (.goto 4, 3) := by decide +kernel
theorem d_Mo_count_92 : decode prog_8_method_38_code 92 = .ok (.iconst 0, 1) := by decide +kernel
theorem d_Mo_count_93 : decode prog_8_method_38_code 93 = .ok (.ireturn, 1) := by decide +kernel
theorem d_Mo_count_94 : decode prog_8_method_38_code 94 = .ok (.aload_n 0, 1) := by decide +kernel
theorem d_Mo_count_95 : decode prog_8_method_38_code 95 = .ok (.getfield 61, 3) := by decide +kernel
theorem d_Mo_count_98 : decode prog_8_method_38_code 98 = .ok (.ireturn, 1) := by decide +kernel
theorem d_Mo_count_99 : decode prog_8_method_38_code 99 = .ok (.iload_n 2, 1) := by decide +kernel
theorem d_Mo_count_100 : decode prog_8_method_38_code 100 = .ok (.ireturn, 1) := by decide +kernel
theorem d_Mo_count_101 : decode prog_8_method_38_code 101 = .ok (.aload_n 0, 1) := by decide +kernel
theorem d_Mo_count_102 : decode prog_8_method_38_code 102 = .ok (.getfield 171, 3) := by decide +kernel
theorem d_Mo_count_105 : decode prog_8_method_38_code 105 = .ok (.ireturn, 1) := by decide +kernel
theorem d_Mo_count_106 : decode prog_8_method_38_code 106 = .ok (.aload_n 0, 1) := by decide +kernel
theorem d_Mo_count_107 : decode prog_8_method_38_code 107 = .ok (.getfield 174, 3) := by decide +kernel
theorem d_Mo_count_110 : decode prog_8_method_38_code 110 = .ok (.ireturn, 1) := by decide +kernel
theorem d_Mo_count_111 : decode prog_8_method_38_code 111 = .ok (.iload_n 1, 1) := by decide +kernel
theorem d_Mo_count_112 : decode prog_8_method_38_code 112 = .ok (.bipush 10, 2) := by decide +kernel
theorem d_Mo_count_114 : decode prog_8_method_38_code 114 = .ok (.if_icmp .lt 33, 3) := by decide +kernel
theorem d_Mo_count_117 : decode prog_8_method_38_code 117 = .ok (.iload_n 1, 1) := by decide +kernel
theorem d_Mo_count_118 : decode prog_8_method_38_code 118 = .ok (.bipush 10, 2) := by decide +kernel
theorem d_Mo_count_120 : decode prog_8_method_38_code 120 = .ok (.isub, 1) := by decide +kernel
theorem d_Mo_count_121 : decode prog_8_method_38_code 121 = .ok (.aload_n 0, 1) := by decide +kernel
theorem d_Mo_count_122 : decode prog_8_method_38_code 122 = .ok (.getfield 82, 3) := by decide +kernel
theorem d_Mo_count_125 : decode prog_8_method_38_code 125 = .ok (.if_icmp .ge 22, 3) := by decide +kernel
theorem d_Mo_count_128 : decode prog_8_method_38_code 128 = .ok (.aload_n 0, 1) := by decide +kernel
theorem d_Mo_count_129 : decode prog_8_method_38_code 129 = .ok (.getfield 53, 3) := by decide +kernel
theorem d_Mo_count_132 : decode prog_8_method_38_code 132 = .ok (.ifCond .eq 15, 3) := by decide +kernel
theorem d_Mo_count_135 : decode prog_8_method_38_code 135 = .ok (.aload_n 0, 1) := by decide +kernel
theorem d_Mo_count_136 : decode prog_8_method_38_code 136 = .ok (.getfield 44, 3) := by decide +kernel
theorem d_Mo_count_139 : decode prog_8_method_38_code 139 = .ok (.iload_n 1, 1) := by decide +kernel
theorem d_Mo_count_140 : decode prog_8_method_38_code 140 = .ok (.bipush 10, 2) := by decide +kernel
theorem d_Mo_count_142 : decode prog_8_method_38_code 142 = .ok (.isub, 1) := by decide +kernel
theorem d_Mo_count_143 : decode prog_8_method_38_code 143 = .ok (.iaload, 1) := by decide +kernel
theorem d_Mo_count_144 : decode prog_8_method_38_code 144 = .ok (.goto 4, 3) := by decide +kernel
theorem d_Mo_count_147 : decode prog_8_method_38_code 147 = .ok (.iconst (-1), 1) := by decide +kernel
theorem d_Mo_count_148 : decode prog_8_method_38_code 148 = .ok (.ireturn, 1) := by decide +kernel
theorem d_Lw_table_0 : decode method_3_code 0 = .ok (.aload_n 0, 1) := by decide +kernel
theorem d_Lw_table_1 : decode method_3_code 1 = .ok (.iload_n 1, 1) := by decide +kernel
theorem d_Lw_table_2 : decode method_3_code 2 = .ok (.iload_n 2, 1) := by decide +kernel
theorem d_Lw_table_3 : decode method_3_code 3 = .ok (.iload_n 3, 1) := by decide +kernel
theorem d_Lw_table_4 : decode method_3_code 4 = .ok (.iload 4, 2) := by decide +kernel
theorem d_Lw_table_6 : decode method_3_code 6 = .ok (.iload 5, 2) := by decide +kernel
theorem d_Lw_table_8 : decode method_3_code 8 = .ok (.invokevirtual 7, 3) := by decide +kernel
theorem d_Lw_table_11 : decode method_3_code 11 = .ok (.goto 7, 3) := by decide +kernel
theorem d_Lw_table_14 : decode method_3_code 14 = .ok (.astore 6, 2) := by decide +kernel
theorem d_Lw_table_16 : decode method_3_code 16 = .ok (.iconst 1, 1) := by decide +kernel
theorem d_Lw_table_17 : decode method_3_code 17 = .ok (.ireturn, 1) := by decide +kernel
theorem d_Lw_table_18 : decode method_3_code 18 = .ok (.iconst 0, 1) := by decide +kernel
theorem d_Lw_table_19 : decode method_3_code 19 = .ok (.ireturn, 1) := by decide +kernel
theorem d_Lw_set_0 : decode method_4_code 0 = .ok (.aload_n 0, 1) := by decide +kernel
theorem d_Lw_set_1 : decode method_4_code 1 = .ok (.iload_n 1, 1) := by decide +kernel
theorem d_Lw_set_2 : decode method_4_code 2 = .ok (.iload_n 2, 1) := by decide +kernel
theorem d_Lw_set_3 : decode method_4_code 3 = .ok (.iload_n 3, 1) := by decide +kernel
theorem d_Lw_set_4 : decode method_4_code 4 = .ok (.dload 4, 2) := by decide +kernel
theorem d_Lw_set_6 : decode method_4_code 6 = .ok (.invokevirtual 15, 3) := by decide +kernel
theorem d_Lw_set_9 : decode method_4_code 9 = .ok (.goto 7, 3) := by decide +kernel
theorem d_Lw_set_12 : decode method_4_code 12 = .ok (.astore 6, 2) := by decide +kernel
theorem d_Lw_set_14 : decode method_4_code 14 = .ok (.iconst 1, 1) := by decide +kernel
theorem d_Lw_set_15 : decode method_4_code 15 = .ok (.ireturn, 1) := by decide +kernel
theorem d_Lw_set_16 : decode method_4_code 16 = .ok (.iconst 0, 1) := by decide +kernel
theorem d_Lw_set_17 : decode method_4_code 17 = .ok (.ireturn, 1) := by decide +kernel
theorem d_Lw_node_0 : decode method_5_code 0 = .ok (.aload 8, 2) := by decide +kernel
theorem d_Lw_node_2 : decode method_5_code 2 = .ok (.iconst 0, 1) := by decide +kernel
theorem d_Lw_node_3 : decode method_5_code 3 = .ok (.aload_n 0, 1) := by decide +kernel
theorem d_Lw_node_4 : decode method_5_code 4 = .ok (.iload_n 1, 1) := by decide +kernel
theorem d_Lw_node_5 : decode method_5_code 5 = .ok (.iload_n 2, 1) := by decide +kernel
theorem d_Lw_node_6 : decode method_5_code 6 = .ok (.iload_n 3, 1) := by decide +kernel
theorem d_Lw_node_7 : decode method_5_code 7 = .ok (.iload 4, 2) := by decide +kernel
theorem d_Lw_node_9 : decode method_5_code 9 = .ok (.iload 5, 2) := by decide +kernel
theorem d_Lw_node_11 : decode method_5_code 11 = .ok (.iload 6, 2) := by decide +kernel
theorem d_Lw_node_13 : decode method_5_code 13 = .ok (.iload 7, 2) := by decide +kernel
theorem d_Lw_node_15 : decode method_5_code 15 = .ok (.invokevirtual 19, 3) := by decide +kernel
theorem d_Lw_node_18 : decode method_5_code 18 = .ok (.i2l, 1) := by decide +kernel
theorem d_Lw_node_19 : decode method_5_code 19 = .ok (.lastore, 1) := by decide +kernel
theorem d_Lw_node_20 : decode method_5_code 20 = .ok (.goto 11, 3) := by decide +kernel
theorem d_Lw_node_23 : decode method_5_code 23 = .ok (.astore 9, 2) := by decide +kernel
theorem d_Lw_node_25 : decode method_5_code 25 = .ok (.iconst 1, 1) := by decide +kernel
theorem d_Lw_node_26 : decode method_5_code 26 = .ok (.ireturn, 1) := by decide +kernel
theorem d_Lw_node_27 : decode method_5_code 27 = .ok (.astore 9, 2) := by decide +kernel
theorem d_Lw_node_29 : decode method_5_code 29 = .ok (.iconst 2, 1) := by decide +kernel
theorem d_Lw_node_30 : decode method_5_code 30 = .ok (.ireturn, 1) := by decide +kernel
theorem d_Lw_node_31 : decode method_5_code 31 = .ok (.iconst 0, 1) := by decide +kernel
theorem d_Lw_node_32 : decode method_5_code 32 = .ok (.ireturn, 1) := by decide +kernel
theorem d_Lw_undo_0 : decode method_6_code 0 = .ok (.aload_n 0, 1) := by decide +kernel
theorem d_Lw_undo_1 : decode method_6_code 1 = .ok (.invokevirtual 25, 3) := by decide +kernel
theorem d_Lw_undo_4 : decode method_6_code 4 = .ok (.goto 6, 3) := by decide +kernel
theorem d_Lw_undo_7 : decode method_6_code 7 = .ok (.astore_n 1, 1) := by decide +kernel
theorem d_Lw_undo_8 : decode method_6_code 8 = .ok (.iconst 1, 1) := by decide +kernel
theorem d_Lw_undo_9 : decode method_6_code 9 = .ok (.ireturn, 1) := by decide +kernel
theorem d_Lw_undo_10 : decode method_6_code 10 = .ok (.iconst 0, 1) := by decide +kernel
theorem d_Lw_undo_11 : decode method_6_code 11 = .ok (.ireturn, 1) := by decide +kernel
theorem d_Lw_prepare_0 : decode method_7_code 0 = .ok (.aload_n 1, 1) := by decide +kernel
theorem d_Lw_prepare_1 : decode method_7_code 1 = .ok (.iconst 0, 1) := by decide +kernel
theorem d_Lw_prepare_2 : decode method_7_code 2 = .ok (.aload_n 0, 1) := by decide +kernel
theorem d_Lw_prepare_3 : decode method_7_code 3 = .ok (.invokevirtual 30, 3) := by decide +kernel
theorem d_Lw_prepare_6 : decode method_7_code 6 = .ok (.i2l, 1) := by decide +kernel
theorem d_Lw_prepare_7 : decode method_7_code 7 = .ok (.lastore, 1) := by decide +kernel
theorem d_Lw_prepare_8 : decode method_7_code 8 = .ok (.goto 9, 3) := by decide +kernel
theorem d_Lw_prepare_11 : decode method_7_code 11 = .ok (.astore_n 2, 1) := by decide +kernel
theorem d_Lw_prepare_12 : decode method_7_code 12 = .ok (.iconst 1, 1) := by decide +kernel
theorem d_Lw_prepare_13 : decode method_7_code 13 = .ok (.ireturn, 1) := by decide +kernel
theorem d_Lw_prepare_14 : decode method_7_code 14 = .ok (.astore_n 2, 1) := by decide +kernel
theorem d_Lw_prepare_15 : decode method_7_code 15 = .ok (.iconst 2, 1) := by decide +kernel
theorem d_Lw_prepare_16 : decode method_7_code 16 = .ok (.ireturn, 1) := by decide +kernel
theorem d_Lw_prepare_17 : decode method_7_code 17 = .ok (.iconst 0, 1) := by decide +kernel
theorem d_Lw_prepare_18 : decode method_7_code 18 = .ok (.ireturn, 1) := by decide +kernel
theorem d_Lw_run_0 : decode method_8_code 0 = .ok (.aload_n 2, 1) := by decide +kernel
theorem d_Lw_run_1 : decode method_8_code 1 = .ok (.iconst 0, 1) := by decide +kernel
theorem d_Lw_run_2 : decode method_8_code 2 = .ok (.aload_n 0, 1) := by decide +kernel
theorem d_Lw_run_3 : decode method_8_code 3 = .ok (.iload_n 1, 1) := by decide +kernel
theorem d_Lw_run_4 : decode method_8_code 4 = .ok (.invokevirtual 36, 3) := by decide +kernel
theorem d_Lw_run_7 : decode method_8_code 7 = .ok (.i2l, 1) := by decide +kernel
theorem d_Lw_run_8 : decode method_8_code 8 = .ok (.lastore, 1) := by decide +kernel
theorem d_Lw_run_9 : decode method_8_code 9 = .ok (.goto 15, 3) := by decide +kernel
theorem d_Lw_run_12 : decode method_8_code 12 = .ok (.astore_n 3, 1) := by decide +kernel
theorem d_Lw_run_13 : decode method_8_code 13 = .ok (.iconst 1, 1) := by decide +kernel
theorem d_Lw_run_14 : decode method_8_code 14 = .ok (.ireturn, 1) := by decide +kernel
theorem d_Lw_run_15 : decode method_8_code 15 = .ok (.astore_n 3, 1) := by decide +kernel
theorem d_Lw_run_16 : decode method_8_code 16 = .ok (.iconst 2, 1) := by decide +kernel
theorem d_Lw_run_17 : decode method_8_code 17 = .ok (.ireturn, 1) := by decide +kernel
theorem d_Lw_run_18 : decode method_8_code 18 = .ok (.astore_n 3, 1) := by decide +kernel
theorem d_Lw_run_19 : decode method_8_code 19 = .ok (.iconst 3, 1) := by decide +kernel
theorem d_Lw_run_20 : decode method_8_code 20 = .ok (.ireturn, 1) := by decide +kernel
theorem d_Lw_run_21 : decode method_8_code 21 = .ok (.astore_n 3, 1) := by decide +kernel
theorem d_Lw_run_22 : decode method_8_code 22 = .ok (.iconst 4, 1) := by decide +kernel
theorem d_Lw_run_23 : decode method_8_code 23 = .ok (.ireturn, 1) := by decide +kernel
theorem d_Lw_run_24 : decode method_8_code 24 = .ok (.iconst 0, 1) := by decide +kernel
theorem d_Lw_run_25 : decode method_8_code 25 = .ok (.ireturn, 1) := by decide +kernel
theorem d_Lw_get_0 : decode method_9_code 0 = .ok (.aload 4, 2) := by decide +kernel
theorem d_Lw_get_2 : decode method_9_code 2 = .ok (.iconst 0, 1) := by decide +kernel
theorem d_Lw_get_3 : decode method_9_code 3 = .ok (.aload_n 0, 1) := by decide +kernel
theorem d_Lw_get_4 : decode method_9_code 4 = .ok (.iload_n 1, 1) := by decide +kernel
theorem d_Lw_get_5 : decode method_9_code 5 = .ok (.iload_n 2, 1) := by decide +kernel
theorem d_Lw_get_6 : decode method_9_code 6 = .ok (.iload_n 3, 1) := by decide +kernel
theorem d_Lw_get_7 : decode method_9_code 7 = .ok (.invokevirtual 44, 3) := by decide +kernel
theorem d_Lw_get_10 : decode method_9_code 10 = .ok (.dastore, 1) := by decide +kernel
theorem d_Lw_get_11 : decode method_9_code 11 = .ok (.goto 11, 3) := by decide +kernel
theorem d_Lw_get_14 : decode method_9_code 14 = .ok (.astore 5, 2) := by decide +kernel
theorem d_Lw_get_16 : decode method_9_code 16 = .ok (.iconst 1, 1) := by decide +kernel
theorem d_Lw_get_17 : decode method_9_code 17 = .ok (.ireturn, 1) := by decide +kernel
theorem d_Lw_get_18 : decode method_9_code 18 = .ok (.astore 5, 2) := by decide +kernel
theorem d_Lw_get_20 : decode method_9_code 20 = .ok (.iconst 2, 1) := by decide +kernel
theorem d_Lw_get_21 : decode method_9_code 21 = .ok (.ireturn, 1) := by decide +kernel
theorem d_Lw_get_22 : decode method_9_code 22 = .ok (.iconst 0, 1) := by decide +kernel
theorem d_Lw_get_23 : decode method_9_code 23 = .ok (.ireturn, 1) := by decide +kernel
theorem d_Lw_slot_0 : decode method_10_code 0 = .ok (.aload_n 3, 1) := by decide +kernel
theorem d_Lw_slot_1 : decode method_10_code 1 = .ok (.iconst 0, 1) := by decide +kernel
theorem d_Lw_slot_2 : decode method_10_code 2 = .ok (.aload_n 0, 1) := by decide +kernel
theorem d_Lw_slot_3 : decode method_10_code 3 = .ok (.iload_n 1, 1) := by decide +kernel
theorem d_Lw_slot_4 : decode method_10_code 4 = .ok (.iload_n 2, 1) := by decide +kernel
theorem d_Lw_slot_5 : decode method_10_code 5 = .ok (.invokevirtual 48, 3) := by decide +kernel
theorem d_Lw_slot_8 : decode method_10_code 8 = .ok (.i2l, 1) := by decide +kernel
theorem d_Lw_slot_9 : decode method_10_code 9 = .ok (.lastore, 1) := by decide +kernel
theorem d_Lw_slot_10 : decode method_10_code 10 = .ok (.goto 11, 3) := by decide +kernel
theorem d_Lw_slot_13 : decode method_10_code 13 = .ok (.astore 4, 2) := by decide +kernel
theorem d_Lw_slot_15 : decode method_10_code 15 = .ok (.iconst 1, 1) := by decide +kernel
theorem d_Lw_slot_16 : decode method_10_code 16 = .ok (.ireturn, 1) := by decide +kernel
theorem d_Lw_slot_17 : decode method_10_code 17 = .ok (.astore 4, 2) := by decide +kernel
theorem d_Lw_slot_19 : decode method_10_code 19 = .ok (.iconst 2, 1) := by decide +kernel
theorem d_Lw_slot_20 : decode method_10_code 20 = .ok (.ireturn, 1) := by decide +kernel
theorem d_Lw_slot_21 : decode method_10_code 21 = .ok (.iconst 0, 1) := by decide +kernel
theorem d_Lw_slot_22 : decode method_10_code 22 = .ok (.ireturn, 1) := by decide +kernel
theorem d_Lw_law_0 : decode code 0 = .ok (.new 8, 3) := by decide +kernel
theorem d_Lw_law_3 : decode code 3 = .ok (.dup, 1) := by decide +kernel
theorem d_Lw_law_4 : decode code 4 = .ok (.invokespecial 52, 3) := by decide +kernel
theorem d_Lw_law_7 : decode code 7 = .ok (.astore_n 1, 1) := by decide +kernel
theorem d_Lw_law_8 : decode code 8 = .ok (.new 53, 3) := by decide +kernel
theorem d_Lw_law_11 : decode code 11 = .ok (.dup, 1) := by decide +kernel
theorem d_Lw_law_12 : decode code 12 = .ok (.invokespecial 55, 3) := by decide +kernel
theorem d_Lw_law_15 : decode code 15 = .ok (.astore_n 2, 1) := by decide +kernel
theorem d_Lw_law_16 : decode code 16 = .ok (.iconst 1, 1) := by decide +kernel
theorem d_Lw_law_17 : decode code 17 = .ok (.newarray .long, 2) := by decide +kernel
theorem d_Lw_law_19 : decode code 19 = .ok (.astore_n 3, 1) := by decide +kernel
theorem d_Lw_law_20 : decode code 20 = .ok (.iconst 1, 1) := by decide +kernel
theorem d_Lw_law_21 : decode code 21 = .ok (.newarray .double, 2) := by decide +kernel
theorem d_Lw_law_23 : decode code 23 = .ok (.astore 4, 2) := by decide +kernel
theorem d_Lw_law_25 : decode code 25 = .ok (.iconst 0, 1) := by decide +kernel
theorem d_Lw_law_26 : decode code 26 = .ok (.istore 5, 2) := by decide +kernel
theorem d_Lw_law_28 : decode code 28 = .ok (.iload 5, 2) := by decide +kernel
theorem d_Lw_law_30 : decode code 30 = .ok (.aload_n 0, 1) := by decide +kernel
theorem d_Lw_law_31 : decode code 31 = .ok (.arraylength, 1) := by decide +kernel
theorem d_Lw_law_32 : decode code 32 = .ok (.bipush 8, 2) := by decide +kernel
theorem d_Lw_law_34 : decode code 34 = .ok (.isub, 1) := by decide +kernel
theorem d_Lw_law_35 : decode code 35 = .ok (.if_icmp .gt 699, 3) := by decide +kernel
theorem d_Lw_law_38 : decode code 38 = .ok (.aload_n 0, 1) := by decide +kernel
theorem d_Lw_law_39 : decode code 39 = .ok (.iload 5, 2) := by decide +kernel
theorem d_Lw_law_41 : decode code 41 = .ok (.iaload, 1) := by decide +kernel
theorem d_Lw_law_42 : decode code 42 = .ok (.bipush 15, 2) := by decide +kernel
theorem d_Lw_law_44 : decode code 44 = .ok (.iand, 1) := by decide +kernel
theorem d_Lw_law_45 : decode code 45 = .ok (.tableswitch 683 0 8 #[51, 151, 233, 365, 389, 433, 489, 590, 658], 51) := by decide +kernel
theorem d_Lw_law_96 : decode code 96 = .ok (.aload_n 1, 1) := by decide +kernel
theorem d_Lw_law_97 : decode code 97 = .ok (.aload_n 0, 1) := by decide +kernel
theorem d_Lw_law_98 : decode code 98 = .ok (.iload 5, 2) := by decide +kernel
theorem d_Lw_law_100 : decode code 100 = .ok (.iconst 1, 1) := by decide +kernel
theorem d_Lw_law_101 : decode code 101 = .ok (.iadd, 1) := by decide +kernel
theorem d_Lw_law_102 : decode code 102 = .ok (.iaload, 1) := by decide +kernel
theorem d_Lw_law_103 : decode code 103 = .ok (.aload_n 0, 1) := by decide +kernel
theorem d_Lw_law_104 : decode code 104 = .ok (.iload 5, 2) := by decide +kernel
theorem d_Lw_law_106 : decode code 106 = .ok (.iconst 2, 1) := by decide +kernel
theorem d_Lw_law_107 : decode code 107 = .ok (.iadd, 1) := by decide +kernel
theorem d_Lw_law_108 : decode code 108 = .ok (.iaload, 1) := by decide +kernel
theorem d_Lw_law_109 : decode code 109 = .ok (.aload_n 0, 1) := by decide +kernel
theorem d_Lw_law_110 : decode code 110 = .ok (.iload 5, 2) := by decide +kernel
theorem d_Lw_law_112 : decode code 112 = .ok (.iconst 3, 1) := by decide +kernel
theorem d_Lw_law_113 : decode code 113 = .ok (.iadd, 1) := by decide +kernel
theorem d_Lw_law_114 : decode code 114 = .ok (.iaload, 1) := by decide +kernel
theorem d_Lw_law_115 : decode code 115 = .ok (.aload_n 0, 1) := by decide +kernel
theorem d_Lw_law_116 : decode code 116 = .ok (.iload 5, 2) := by decide +kernel
theorem d_Lw_law_118 : decode code 118 = .ok (.iconst 4, 1) := by decide +kernel
theorem d_Lw_law_119 : decode code 119 = .ok (.iadd, 1) := by decide +kernel
theorem d_Lw_law_120 : decode code 120 = .ok (.iaload, 1) := by decide +kernel
theorem d_Lw_law_121 : decode code 121 = .ok (.aload_n 0, 1) := by decide +kernel
theorem d_Lw_law_122 : decode code 122 = .ok (.iload 5, 2) := by decide +kernel
theorem d_Lw_law_124 : decode code 124 = .ok (.iconst 5, 1) := by decide +kernel
theorem d_Lw_law_125 : decode code 125 = .ok (.iadd, 1) := by decide +kernel
theorem d_Lw_law_126 : decode code 126 = .ok (.iaload, 1) := by decide +kernel
theorem d_Lw_law_127 : decode code 127 = .ok (.ifCond .eq 7, 3) := by decide +kernel
theorem d_Lw_law_130 : decode code 130 = .ok (.iconst 1, 1) := by decide +kernel
theorem d_Lw_law_131 : decode code 131 = .ok (.goto 4, 3) := by decide +kernel
theorem d_Lw_law_134 : decode code 134 = .ok (.iconst 0, 1) := by decide +kernel
theorem d_Lw_law_135 : decode code 135 = .ok (.invokestatic 56, 3) := by decide +kernel
theorem d_Lw_law_138 : decode code 138 = .ok (.istore 6, 2) := by decide +kernel
theorem d_Lw_law_140 : decode code 140 = .ok (.aload_n 2, 1) := by decide +kernel
theorem d_Lw_law_141 : decode code 141 = .ok (.aload_n 0, 1) := by decide +kernel
theorem d_Lw_law_142 : decode code 142 = .ok (.iload 5, 2) := by decide +kernel
theorem d_Lw_law_144 : decode code 144 = .ok (.iconst 1, 1) := by decide +kernel
theorem d_Lw_law_145 : decode code 145 = .ok (.iadd, 1) := by decide +kernel
theorem d_Lw_law_146 : decode code 146 = .ok (.iaload, 1) := by decide +kernel
theorem d_Lw_law_147 : decode code 147 = .ok (.aload_n 0, 1) := by decide +kernel
theorem d_Lw_law_148 : decode code 148 = .ok (.iload 5, 2) := by decide +kernel
theorem d_Lw_law_150 : decode code 150 = .ok (.iconst 2, 1) := by decide +kernel
theorem d_Lw_law_151 : decode code 151 = .ok (.iadd, 1) := by decide +kernel
theorem d_Lw_law_152 : decode code 152 = .ok (.iaload, 1) := by decide +kernel
theorem d_Lw_law_153 : decode code 153 = .ok (.aload_n 0, 1) := by decide +kernel
theorem d_Lw_law_154 : decode code 154 = .ok (.iload 5, 2) := by decide +kernel
theorem d_Lw_law_156 : decode code 156 = .ok (.iconst 3, 1) := by decide +kernel
theorem d_Lw_law_157 : decode code 157 = .ok (.iadd, 1) := by decide +kernel
theorem d_Lw_law_158 : decode code 158 = .ok (.iaload, 1) := by decide +kernel
theorem d_Lw_law_159 : decode code 159 = .ok (.aload_n 0, 1) := by decide +kernel
theorem d_Lw_law_160 : decode code 160 = .ok (.iload 5, 2) := by decide +kernel
theorem d_Lw_law_162 : decode code 162 = .ok (.iconst 4, 1) := by decide +kernel
theorem d_Lw_law_163 : decode code 163 = .ok (.iadd, 1) := by decide +kernel
theorem d_Lw_law_164 : decode code 164 = .ok (.iaload, 1) := by decide +kernel
theorem d_Lw_law_165 : decode code 165 = .ok (.aload_n 0, 1) := by decide +kernel
theorem d_Lw_law_166 : decode code 166 = .ok (.iload 5, 2) := by decide +kernel
theorem d_Lw_law_168 : decode code 168 = .ok (.iconst 5, 1) := by decide +kernel
theorem d_Lw_law_169 : decode code 169 = .ok (.iadd, 1) := by decide +kernel
theorem d_Lw_law_170 : decode code 170 = .ok (.iaload, 1) := by decide +kernel
theorem d_Lw_law_171 : decode code 171 = .ok (.ifCond .eq 7, 3) := by decide +kernel
theorem d_Lw_law_174 : decode code 174 = .ok (.iconst 1, 1) := by decide +kernel
theorem d_Lw_law_175 : decode code 175 = .ok (.goto 4, 3) := by decide +kernel
theorem d_Lw_law_178 : decode code 178 = .ok (.iconst 0, 1) := by decide +kernel
theorem d_Lw_law_179 : decode code 179 = .ok (.invokevirtual 61, 3) := by decide +kernel
theorem d_Lw_law_182 : decode code 182 = .ok (.aload_n 2, 1) := by decide +kernel
theorem d_Lw_law_183 : decode code 183 = .ok (.invokevirtual 62, 3) := by decide +kernel
theorem d_Lw_law_186 : decode code 186 = .ok (.iload 6, 2) := by decide +kernel
theorem d_Lw_law_188 : decode code 188 = .ok (.if_icmp .eq 5, 3) := by decide +kernel
theorem d_Lw_law_191 : decode code 191 = .ok (.iconst 0, 1) := by decide +kernel
theorem d_Lw_law_192 : decode code 192 = .ok (.ireturn, 1) := by decide +kernel
theorem d_Lw_law_193 : decode code 193 = .ok (.goto 535, 3) := by decide +kernel
theorem d_Lw_law_196 : decode code 196 = .ok (.aload_n 1, 1) := by decide +kernel
theorem d_Lw_law_197 : decode code 197 = .ok (.aload_n 0, 1) := by decide +kernel
theorem d_Lw_law_198 : decode code 198 = .ok (.iload 5, 2) := by decide +kernel
theorem d_Lw_law_200 : decode code 200 = .ok (.iconst 1, 1) := by decide +kernel
theorem d_Lw_law_201 : decode code 201 = .ok (.iadd, 1) := by decide +kernel
theorem d_Lw_law_202 : decode code 202 = .ok (.iaload, 1) := by decide +kernel
theorem d_Lw_law_203 : decode code 203 = .ok (.aload_n 0, 1) := by decide +kernel
theorem d_Lw_law_204 : decode code 204 = .ok (.iload 5, 2) := by decide +kernel
theorem d_Lw_law_206 : decode code 206 = .ok (.iconst 2, 1) := by decide +kernel
theorem d_Lw_law_207 : decode code 207 = .ok (.iadd, 1) := by decide +kernel
theorem d_Lw_law_208 : decode code 208 = .ok (.iaload, 1) := by decide +kernel
theorem d_Lw_law_209 : decode code 209 = .ok (.aload_n 0, 1) := by decide +kernel
theorem d_Lw_law_210 : decode code 210 = .ok (.iload 5, 2) := by decide +kernel
theorem d_Lw_law_212 : decode code 212 = .ok (.iconst 3, 1) := by decide +kernel
theorem d_Lw_law_213 : decode code 213 = .ok (.iadd, 1) := by decide +kernel
theorem d_Lw_law_214 : decode code 214 = .ok (.iaload, 1) := by decide +kernel
theorem d_Lw_law_215 : decode code 215 = .ok (.aload_n 0, 1) := by decide +kernel
theorem d_Lw_law_216 : decode code 216 = .ok (.iload 5, 2) := by decide +kernel
theorem d_Lw_law_218 : decode code 218 = .ok (.iconst 4, 1) := by decide +kernel
theorem d_Lw_law_219 : decode code 219 = .ok (.iadd, 1) := by decide +kernel
theorem d_Lw_law_220 : decode code 220 = .ok (.iaload, 1) := by decide +kernel
theorem d_Lw_law_221 : decode code 221 = .ok (.i2d, 1) := by decide +kernel
