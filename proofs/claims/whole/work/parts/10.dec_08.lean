theorem d_Mo_work_0 : decode prog_8_method_30_code 0 = .ok (.aload_n 0, 1) := by decide +kernel
theorem d_Mo_work_1 : decode prog_8_method_30_code 1 = .ok (.getfield 32, 3) := by decide +kernel
theorem d_Mo_work_4 : decode prog_8_method_30_code 4 = .ok (.iload_n 1, 1) := by decide +kernel
theorem d_Mo_work_5 : decode prog_8_method_30_code 5 = .ok (.iaload, 1) := by decide +kernel
theorem d_Mo_work_6 : decode prog_8_method_30_code 6 = .ok (.istore_n 2, 1) := by decide +kernel
theorem d_Mo_work_7 : decode prog_8_method_30_code 7 = .ok (.aload_n 0, 1) := by decide +kernel
theorem d_Mo_work_8 : decode prog_8_method_30_code 8 = .ok (.iconst 0, 1) := by decide +kernel
theorem d_Mo_work_9 : decode prog_8_method_30_code 9 = .ok (.putfield 108, 3) := by decide +kernel
theorem d_Mo_work_12 : decode prog_8_method_30_code 12 = .ok (.iconst 0, 1) := by decide +kernel
theorem d_Mo_work_13 : decode prog_8_method_30_code 13 = .ok (.istore_n 3, 1) := by decide +kernel
theorem d_Mo_work_14 : decode prog_8_method_30_code 14 = .ok (.iload_n 3, 1) := by decide +kernel
theorem d_Mo_work_15 : decode prog_8_method_30_code 15 = .ok (.aload_n 0, 1) := by decide +kernel
theorem d_Mo_work_16 : decode prog_8_method_30_code 16 = .ok (.getfield 16, 3) := by decide +kernel
theorem d_Mo_work_19 : decode prog_8_method_30_code 19 = .ok (.iload_n 2, 1) := by decide +kernel
theorem d_Mo_work_20 : decode prog_8_method_30_code 20 = .ok (.iaload, 1) := by decide +kernel
theorem d_Mo_work_21 : decode prog_8_method_30_code 21 = .ok (.if_icmp .ge 84, 3) := by decide +kernel
theorem d_Mo_work_24 : decode prog_8_method_30_code 24 = .ok (.iconst 0, 1) := by decide +kernel
theorem d_Mo_work_25 : decode prog_8_method_30_code 25 = .ok (.istore 4, 2) := by decide +kernel
theorem d_Mo_work_27 : decode prog_8_method_30_code 27 = .ok (.iload 4, 2) := by decide +kernel
theorem d_Mo_work_29 : decode prog_8_method_30_code 29 = .ok (.aload_n 0, 1) := by decide +kernel
theorem d_Mo_work_30 : decode prog_8_method_30_code 30 = .ok (.getfield 19, 3) := by decide +kernel
theorem d_Mo_work_33 : decode prog_8_method_30_code 33 = .ok (.iload_n 2, 1) := by decide +kernel
theorem d_Mo_work_34 : decode prog_8_method_30_code 34 = .ok (.iaload, 1) := by decide +kernel
theorem d_Mo_work_35 : decode prog_8_method_30_code 35 = .ok (.if_icmp .ge 64, 3) := by decide +kernel
theorem d_Mo_work_38 : decode prog_8_method_30_code 38 = .ok (.aload_n 0, 1) := by decide +kernel
theorem d_Mo_work_39 : decode prog_8_method_30_code 39 = .ok (.iload_n 1, 1) := by decide +kernel
theorem d_Mo_work_40 : decode prog_8_method_30_code 40 = .ok (.iload_n 3, 1) := by decide +kernel
theorem d_Mo_work_41 : decode prog_8_method_30_code 41 = .ok (.iload 4, 2) := by decide +kernel
theorem d_Mo_work_43 : decode prog_8_method_30_code 43 = .ok (.invokevirtual 148, 3) := by decide +kernel
theorem d_Mo_work_46 : decode prog_8_method_30_code 46 = .ok (.dstore 5, 2) := by decide +kernel
theorem d_Mo_work_48 : decode prog_8_method_30_code 48 = .ok (.aload_n 0, 1) := by decide +kernel
theorem d_Mo_work_49 : decode prog_8_method_30_code 49 = .ok (.getfield 50, 3) := by decide +kernel
theorem d_Mo_work_52 : decode prog_8_method_30_code 52 = .ok (.iload_n 3, 1) := by decide +kernel
theorem d_Mo_work_53 : decode prog_8_method_30_code 53 = .ok (.iconst 4, 1) := by decide +kernel
theorem d_Mo_work_54 : decode prog_8_method_30_code 54 = .ok (.imul, 1) := by decide +kernel
theorem d_Mo_work_55 : decode prog_8_method_30_code 55 = .ok (.iload 4, 2) := by decide +kernel
theorem d_Mo_work_57 : decode prog_8_method_30_code 57 = .ok (.iadd, 1) := by decide +kernel
theorem d_Mo_work_58 : decode prog_8_method_30_code 58 = .ok (.dload 5, 2) := by decide +kernel
theorem d_Mo_work_60 : decode prog_8_method_30_code 60 = .ok (.dastore, 1) := by decide +kernel
theorem d_Mo_work_61 : decode prog_8_method_30_code 61 = .ok (.aload_n 0, 1) := by decide +kernel
theorem d_Mo_work_62 : decode prog_8_method_30_code 62 = .ok (.getfield 13, 3) := by decide +kernel
theorem d_Mo_work_65 : decode prog_8_method_30_code 65 = .ok (.iload_n 2, 1) := by decide +kernel
theorem d_Mo_work_66 : decode prog_8_method_30_code 66 = .ok (.iaload, 1) := by decide +kernel
theorem d_Mo_work_67 : decode prog_8_method_30_code 67 = .ok (.ifCond .ne 26, 3) := by decide +kernel
theorem d_Mo_work_70 : decode prog_8_method_30_code 70 = .ok (.dload 5, 2) := by decide +kernel
theorem d_Mo_work_72 : decode prog_8_method_30_code 72 = .ok (.ldc2_w 151, 3) := by decide +kernel
theorem d_Mo_work_75 : decode prog_8_method_30_code 75 = .ok (.dcmp .l, 1) := by decide +kernel
theorem d_Mo_work_76 : decode prog_8_method_30_code 76 = .ok (.ifCond .gt 12, 3) := by decide +kernel
theorem d_Mo_work_79 : decode prog_8_method_30_code 79 = .ok (.dload 5, 2) := by decide +kernel
theorem d_Mo_work_81 : decode prog_8_method_30_code 81 = .ok (.ldc2_w 153, 3) := by decide +kernel
theorem d_Mo_work_84 : decode prog_8_method_30_code 84 = .ok (.dcmp .g, 1) := by decide +kernel
theorem d_Mo_work_85 : decode prog_8_method_30_code 85 = .ok (.ifCond .ge 8, 3) := by decide +kernel
theorem d_Mo_work_88 : decode prog_8_method_30_code 88 = .ok (.aload_n 0, 1) := by decide +kernel
theorem d_Mo_work_89 : decode prog_8_method_30_code 89 = .ok (.iconst 3, 1) := by decide +kernel
theorem d_Mo_work_90 : decode prog_8_method_30_code 90 = .ok (.invokevirtual 104, 3) := by decide +kernel
theorem d_Mo_work_93 : decode prog_8_method_30_code 93 = .ok (.iinc 4 1, 3) := by decide +kernel
theorem d_Mo_work_96 : decode prog_8_method_30_code 96 = .ok (.goto (-69), 3) := by decide +kernel
theorem d_Mo_work_99 : decode prog_8_method_30_code 99 = .ok (.iinc 3 1, 3) := by decide +kernel
theorem d_Mo_work_102 : decode prog_8_method_30_code 102 = .ok (.goto (-88), 3) := by decide +kernel
theorem d_Mo_work_105 : decode prog_8_method_30_code 105 = .ok (.iconst 0, 1) := by decide +kernel
theorem d_Mo_work_106 : decode prog_8_method_30_code 106 = .ok (.istore_n 3, 1) := by decide +kernel
theorem d_Mo_work_107 : decode prog_8_method_30_code 107 = .ok (.iload_n 3, 1) := by decide +kernel
theorem d_Mo_work_108 : decode prog_8_method_30_code 108 = .ok (.bipush 16, 2) := by decide +kernel
theorem d_Mo_work_110 : decode prog_8_method_30_code 110 = .ok (.if_icmp .ge 33, 3) := by decide +kernel
theorem d_Mo_work_113 : decode prog_8_method_30_code 113 = .ok (.aload_n 0, 1) := by decide +kernel
theorem d_Mo_work_114 : decode prog_8_method_30_code 114 = .ok (.getfield 108, 3) := by decide +kernel
theorem d_Mo_work_117 : decode prog_8_method_30_code 117 = .ok (.ifCond .ne 26, 3) := by decide +kernel
theorem d_Mo_work_120 : decode prog_8_method_30_code 120 = .ok (.aload_n 0, 1) := by decide +kernel
theorem d_Mo_work_121 : decode prog_8_method_30_code 121 = .ok (.getfield 25, 3) := by decide +kernel
theorem d_Mo_work_124 : decode prog_8_method_30_code 124 = .ok (.iload_n 2, 1) := by decide +kernel
theorem d_Mo_work_125 : decode prog_8_method_30_code 125 = .ok (.bipush 16, 2) := by decide +kernel
theorem d_Mo_work_127 : decode prog_8_method_30_code 127 = .ok (.imul, 1) := by decide +kernel
theorem d_Mo_work_128 : decode prog_8_method_30_code 128 = .ok (.iload_n 3, 1) := by decide +kernel
theorem d_Mo_work_129 : decode prog_8_method_30_code 129 = .ok (.iadd, 1) := by decide +kernel
theorem d_Mo_work_130 : decode prog_8_method_30_code 130 = .ok (.aload_n 0, 1) := by decide +kernel
theorem d_Mo_work_131 : decode prog_8_method_30_code 131 = .ok (.getfield 50, 3) := by decide +kernel
theorem d_Mo_work_134 : decode prog_8_method_30_code 134 = .ok (.iload_n 3, 1) := by decide +kernel
theorem d_Mo_work_135 : decode prog_8_method_30_code 135 = .ok (.daload, 1) := by decide +kernel
theorem d_Mo_work_136 : decode prog_8_method_30_code 136 = .ok (.dastore, 1) := by decide +kernel
theorem d_Mo_work_137 : decode prog_8_method_30_code 137 = .ok (.iinc 3 1, 3) := by decide +kernel
theorem d_Mo_work_140 : decode prog_8_method_30_code 140 = .ok (.goto (-33), 3) := by decide +kernel
theorem d_Mo_work_143 : decode prog_8_method_30_code 143 = .ok (.aload_n 0, 1) := by decide +kernel
theorem d_Mo_work_144 : decode prog_8_method_30_code 144 = .ok (.getfield 108, 3) := by decide +kernel
theorem d_Mo_work_147 : decode prog_8_method_30_code 147 = .ok (.ireturn, 1) := by decide +kernel
theorem d_Mo_element_0 : decode prog_8_method_29_code 0 = .ok (.aload_n 0, 1) := by decide +kernel
theorem d_Mo_element_1 : decode prog_8_method_29_code 1 = .ok (.getfield 29, 3) := by decide +kernel
theorem d_Mo_element_4 : decode prog_8_method_29_code 4 = .ok (.iload_n 1, 1) := by decide +kernel
theorem d_Mo_element_5 : decode prog_8_method_29_code 5 = .ok (.iaload, 1) := by decide +kernel
theorem d_Mo_element_6 : decode prog_8_method_29_code 6 = .ok (.istore 4, 2) := by decide +kernel
theorem d_Mo_element_8 : decode prog_8_method_29_code 8 = .ok (.aload_n 0, 1) := by decide +kernel
theorem d_Mo_element_9 : decode prog_8_method_29_code 9 = .ok (.getfield 47, 3) := by decide +kernel
theorem d_Mo_element_12 : decode prog_8_method_29_code 12 = .ok (.iload_n 1, 1) := by decide +kernel
theorem d_Mo_element_13 : decode prog_8_method_29_code 13 = .ok (.iconst 3, 1) := by decide +kernel
theorem d_Mo_element_14 : decode prog_8_method_29_code 14 = .ok (.imul, 1) := by decide +kernel
theorem d_Mo_element_15 : decode prog_8_method_29_code 15 = .ok (.iaload, 1) := by decide +kernel
theorem d_Mo_element_16 : decode prog_8_method_29_code 16 = .ok (.istore 5, 2) := by decide +kernel
theorem d_Mo_element_18 : decode prog_8_method_29_code 18 = .ok (.aload_n 0, 1) := by decide +kernel
theorem d_Mo_element_19 : decode prog_8_method_29_code 19 = .ok (.getfield 47, 3) := by decide +kernel
theorem d_Mo_element_22 : decode prog_8_method_29_code 22 = .ok (.iload_n 1, 1) := by decide +kernel
theorem d_Mo_element_23 : decode prog_8_method_29_code 23 = .ok (.iconst 3, 1) := by decide +kernel
theorem d_Mo_element_24 : decode prog_8_method_29_code 24 = .ok (.imul, 1) := by decide +kernel
theorem d_Mo_element_25 : decode prog_8_method_29_code 25 = .ok (.iconst 1, 1) := by decide +kernel
theorem d_Mo_element_26 : decode prog_8_method_29_code 26 = .ok (.iadd, 1) := by decide +kernel
theorem d_Mo_element_27 : decode prog_8_method_29_code 27 = .ok (.iaload, 1) := by decide +kernel
theorem d_Mo_element_28 : decode prog_8_method_29_code 28 = .ok (.istore 6, 2) := by decide +kernel
theorem d_Mo_element_30 : decode prog_8_method_29_code 30 = .ok (.aload_n 0, 1) := by decide +kernel
theorem d_Mo_element_31 : decode prog_8_method_29_code 31 = .ok (.getfield 47, 3) := by decide +kernel
theorem d_Mo_element_34 : decode prog_8_method_29_code 34 = .ok (.iload_n 1, 1) := by decide +kernel
theorem d_Mo_element_35 : decode prog_8_method_29_code 35 = .ok (.iconst 3, 1) := by decide +kernel
theorem d_Mo_element_36 : decode prog_8_method_29_code 36 = .ok (.imul, 1) := by decide +kernel
theorem d_Mo_element_37 : decode prog_8_method_29_code 37 = .ok (.iconst 2, 1) := by decide +kernel
theorem d_Mo_element_38 : decode prog_8_method_29_code 38 = .ok (.iadd, 1) := by decide +kernel
theorem d_Mo_element_39 : decode prog_8_method_29_code 39 = .ok (.iaload, 1) := by decide +kernel
theorem d_Mo_element_40 : decode prog_8_method_29_code 40 = .ok (.istore 7, 2) := by decide +kernel
theorem d_Mo_element_42 : decode prog_8_method_29_code 42 = .ok (.iload 4, 2) := by decide +kernel
theorem d_Mo_element_44 : decode prog_8_method_29_code 44 = .ok (.tableswitch 443 0 17 #[88, 88, 88, 88, 127, 138, 164, 181, 195, 221, 254, 277, 322, 333, 345, 369, 380, 392], 88) := by decide +kernel
theorem d_Mo_element_132 : decode prog_8_method_29_code 132 = .ok (.aload_n 0, 1) := by decide +kernel
theorem d_Mo_element_133 : decode prog_8_method_29_code 133 = .ok (.iload 4, 2) := by decide +kernel
theorem d_Mo_element_135 : decode prog_8_method_29_code 135 = .ok (.aload_n 0, 1) := by decide +kernel
theorem d_Mo_element_136 : decode prog_8_method_29_code 136 = .ok (.iload 5, 2) := by decide +kernel
theorem d_Mo_element_138 : decode prog_8_method_29_code 138 = .ok (.iload_n 2, 1) := by decide +kernel
theorem d_Mo_element_139 : decode prog_8_method_29_code 139 = .ok (.iload_n 3, 1) := by decide +kernel
theorem d_Mo_element_140 : decode prog_8_method_29_code 140 = .ok (.invokevirtual 111, 3) := by decide +kernel
theorem d_Mo_element_143 : decode prog_8_method_29_code 143 = .ok (.aload_n 0, 1) := by decide +kernel
theorem d_Mo_element_144 : decode prog_8_method_29_code 144 = .ok (.iload 6, 2) := by decide +kernel
theorem d_Mo_element_146 : decode prog_8_method_29_code 146 = .ok (.iload_n 2, 1) := by decide +kernel
theorem d_Mo_element_147 : decode prog_8_method_29_code 147 = .ok (.iload_n 3, 1) := by decide +kernel
theorem d_Mo_element_148 : decode prog_8_method_29_code 148 = .ok (.invokevirtual 111, 3) := by decide +kernel
theorem d_Mo_element_151 : decode prog_8_method_29_code 151 = .ok (.aload_n 0, 1) := by decide +kernel
theorem d_Mo_element_152 : decode prog_8_method_29_code 152 = .ok (.getfield 13, 3) := by decide +kernel
theorem d_Mo_element_155 : decode prog_8_method_29_code 155 = .ok (.iload 5, 2) := by decide +kernel
theorem d_Mo_element_157 : decode prog_8_method_29_code 157 = .ok (.iaload, 1) := by decide +kernel
theorem d_Mo_element_158 : decode prog_8_method_29_code 158 = .ok (.iconst 1, 1) := by decide +kernel
theorem d_Mo_element_159 : decode prog_8_method_29_code 159 = .ok (.if_icmp .ne 7, 3) := by decide +kernel
theorem d_Mo_element_162 : decode prog_8_method_29_code 162 = .ok (.iconst 1, 1) := by decide +kernel
theorem d_Mo_element_163 : decode prog_8_method_29_code 163 = .ok (.goto 4, 3) := by decide +kernel
theorem d_Mo_element_166 : decode prog_8_method_29_code 166 = .ok (.iconst 0, 1) := by decide +kernel
theorem d_Mo_element_167 : decode prog_8_method_29_code 167 = .ok (.invokevirtual 115, 3) := by decide +kernel
theorem d_Mo_element_170 : decode prog_8_method_29_code 170 = .ok (.dreturn, 1) := by decide +kernel
theorem d_Mo_element_171 : decode prog_8_method_29_code 171 = .ok (.aload_n 0, 1) := by decide +kernel
theorem d_Mo_element_172 : decode prog_8_method_29_code 172 = .ok (.iload 5, 2) := by decide +kernel
theorem d_Mo_element_174 : decode prog_8_method_29_code 174 = .ok (.iload 6, 2) := by decide +kernel
theorem d_Mo_element_176 : decode prog_8_method_29_code 176 = .ok (.iload_n 2, 1) := by decide +kernel
theorem d_Mo_element_177 : decode prog_8_method_29_code 177 = .ok (.iload_n 3, 1) := by decide +kernel
theorem d_Mo_element_178 : decode prog_8_method_29_code 178 = .ok (.invokevirtual 119, 3) := by decide +kernel
theorem d_Mo_element_181 : decode prog_8_method_29_code 181 = .ok (.dreturn, 1) := by decide +kernel
theorem d_Mo_element_182 : decode prog_8_method_29_code 182 = .ok (.aload_n 0, 1) := by decide +kernel
theorem d_Mo_element_183 : decode prog_8_method_29_code 183 = .ok (.iload 5, 2) := by decide +kernel
theorem d_Mo_element_185 : decode prog_8_method_29_code 185 = .ok (.iload_n 2, 1) := by decide +kernel
theorem d_Mo_element_186 : decode prog_8_method_29_code 186 = .ok (.iload_n 3, 1) := by decide +kernel
theorem d_Mo_element_187 : decode prog_8_method_29_code 187 = .ok (.invokevirtual 111, 3) := by decide +kernel
theorem d_Mo_element_190 : decode prog_8_method_29_code 190 = .ok (.dconst 0, 1) := by decide +kernel
theorem d_Mo_element_191 : decode prog_8_method_29_code 191 = .ok (.dcmp .l, 1) := by decide +kernel
theorem d_Mo_element_192 : decode prog_8_method_29_code 192 = .ok (.ifCond .le 14, 3) := by decide +kernel
theorem d_Mo_element_195 : decode prog_8_method_29_code 195 = .ok (.aload_n 0, 1) := by decide +kernel
theorem d_Mo_element_196 : decode prog_8_method_29_code 196 = .ok (.iload 5, 2) := by decide +kernel
theorem d_Mo_element_198 : decode prog_8_method_29_code 198 = .ok (.iload_n 2, 1) := by decide +kernel
theorem d_Mo_element_199 : decode prog_8_method_29_code 199 = .ok (.iload_n 3, 1) := by decide +kernel
theorem d_Mo_element_200 : decode prog_8_method_29_code 200 = .ok (.invokevirtual 111, 3) := by decide +kernel
theorem d_Mo_element_203 : decode prog_8_method_29_code 203 = .ok (.goto 4, 3) := by decide +kernel
theorem d_Mo_element_206 : decode prog_8_method_29_code 206 = .ok (.dconst 0, 1) := by decide +kernel
theorem d_Mo_element_207 : decode prog_8_method_29_code 207 = .ok (.dreturn, 1) := by decide +kernel
theorem d_Mo_element_208 : decode prog_8_method_29_code 208 = .ok (.aload_n 0, 1) := by decide +kernel
theorem d_Mo_element_209 : decode prog_8_method_29_code 209 = .ok (.getfield 25, 3) := by decide +kernel
theorem d_Mo_element_212 : decode prog_8_method_29_code 212 = .ok (.iload 5, 2) := by decide +kernel
theorem d_Mo_element_214 : decode prog_8_method_29_code 214 = .ok (.bipush 16, 2) := by decide +kernel
theorem d_Mo_element_216 : decode prog_8_method_29_code 216 = .ok (.imul, 1) := by decide +kernel
theorem d_Mo_element_217 : decode prog_8_method_29_code 217 = .ok (.iload_n 3, 1) := by decide +kernel
theorem d_Mo_element_218 : decode prog_8_method_29_code 218 = .ok (.iconst 4, 1) := by decide +kernel
theorem d_Mo_element_219 : decode prog_8_method_29_code 219 = .ok (.imul, 1) := by decide +kernel
theorem d_Mo_element_220 : decode prog_8_method_29_code 220 = .ok (.iadd, 1) := by decide +kernel
theorem d_Mo_element_221 : decode prog_8_method_29_code 221 = .ok (.iload_n 2, 1) := by decide +kernel
theorem d_Mo_element_222 : decode prog_8_method_29_code 222 = .ok (.iadd, 1) := by decide +kernel
theorem d_Mo_element_223 : decode prog_8_method_29_code 223 = .ok (.daload, 1) := by decide +kernel
theorem d_Mo_element_224 : decode prog_8_method_29_code 224 = .ok (.dreturn, 1) := by decide +kernel
theorem d_Mo_element_225 : decode prog_8_method_29_code 225 = .ok (.aload_n 0, 1) := by decide +kernel
theorem d_Mo_element_226 : decode prog_8_method_29_code 226 = .ok (.iload_n 1, 1) := by decide +kernel
theorem d_Mo_element_227 : decode prog_8_method_29_code 227 = .ok (.aload_n 0, 1) := by decide +kernel
theorem d_Mo_element_228 : decode prog_8_method_29_code 228 = .ok (.iload 5, 2) := by decide +kernel
theorem d_Mo_element_230 : decode prog_8_method_29_code 230 = .ok (.iload_n 2, 1) := by decide +kernel
theorem d_Mo_element_231 : decode prog_8_method_29_code 231 = .ok (.iload_n 3, 1) := by decide +kernel
theorem d_Mo_element_232 : decode prog_8_method_29_code 232 = .ok (.invokevirtual 111, 3) := by decide +kernel
theorem d_Mo_element_235 : decode prog_8_method_29_code 235 = .ok (.invokevirtual 123, 3) := by decide +kernel
theorem d_Mo_element_238 : decode prog_8_method_29_code 238 = .ok (.dreturn, 1) := by decide +kernel
theorem d_Mo_element_239 : decode prog_8_method_29_code 239 = .ok (.aload_n 0, 1) := by decide +kernel
theorem d_Mo_element_240 : decode prog_8_method_29_code 240 = .ok (.iload 5, 2) := by decide +kernel
theorem d_Mo_element_242 : decode prog_8_method_29_code 242 = .ok (.iload_n 2, 1) := by decide +kernel
theorem d_Mo_element_243 : decode prog_8_method_29_code 243 = .ok (.iload_n 3, 1) := by decide +kernel
theorem d_Mo_element_244 : decode prog_8_method_29_code 244 = .ok (.invokevirtual 111, 3) := by decide +kernel
theorem d_Mo_element_247 : decode prog_8_method_29_code 247 = .ok (.aload_n 0, 1) := by decide +kernel
theorem d_Mo_element_248 : decode prog_8_method_29_code 248 = .ok (.iload 6, 2) := by decide +kernel
theorem d_Mo_element_250 : decode prog_8_method_29_code 250 = .ok (.iload_n 2, 1) := by decide +kernel
theorem d_Mo_element_251 : decode prog_8_method_29_code 251 = .ok (.iload_n 3, 1) := by decide +kernel
theorem d_Mo_element_252 : decode prog_8_method_29_code 252 = .ok (.invokevirtual 111, 3) := by decide +kernel
theorem d_Mo_element_255 : decode prog_8_method_29_code 255 = .ok (.dcmp .g, 1) := by decide +kernel
theorem d_Mo_element_256 : decode prog_8_method_29_code 256 = .ok (.ifCond .ge 7, 3) := by decide +kernel
theorem d_Mo_element_259 : decode prog_8_method_29_code 259 = .ok (.dconst 1, 1) := by decide +kernel
theorem d_Mo_element_260 : decode prog_8_method_29_code 260 = .ok (.goto 4, 3) := by decide +kernel
theorem d_Mo_element_263 : decode prog_8_method_29_code 263 = .ok (.dconst 0, 1) := by decide +kernel
theorem d_Mo_element_264 : decode prog_8_method_29_code 264 = .ok (.dreturn, 1) := by decide +kernel
theorem d_Mo_element_265 : decode prog_8_method_29_code 265 = .ok (.aload_n 0, 1) := by decide +kernel
theorem d_Mo_element_266 : decode prog_8_method_29_code 266 = .ok (.iload 7, 2) := by decide +kernel
theorem d_Mo_element_268 : decode prog_8_method_29_code 268 = .ok (.iload_n 2, 1) := by decide +kernel
theorem d_Mo_element_269 : decode prog_8_method_29_code 269 = .ok (.iload_n 3, 1) := by decide +kernel
theorem d_Mo_element_270 : decode prog_8_method_29_code 270 = .ok (.invokevirtual 111, 3) := by decide +kernel
theorem d_Mo_element_273 : decode prog_8_method_29_code 273 = .ok (.dconst 0, 1) := by decide +kernel
theorem d_Mo_element_274 : decode prog_8_method_29_code 274 = .ok (.dcmp .l, 1) := by decide +kernel
theorem d_Mo_element_275 : decode prog_8_method_29_code 275 = .ok (.ifCond .eq 14, 3) := by decide +kernel
theorem d_Mo_element_278 : decode prog_8_method_29_code 278 = .ok (.aload_n 0, 1) := by decide +kernel
theorem d_Mo_element_279 : decode prog_8_method_29_code 279 = .ok (.iload 5, 2) := by decide +kernel
theorem d_Mo_element_281 : decode prog_8_method_29_code 281 = .ok (.iload_n 2, 1) := by decide +kernel
theorem d_Mo_element_282 : decode prog_8_method_29_code 282 = .ok (.iload_n 3, 1) := by decide +kernel
theorem d_Mo_element_283 : decode prog_8_method_29_code 283 = .ok (.invokevirtual 111, 3) := by decide +kernel
theorem d_Mo_element_286 : decode prog_8_method_29_code 286 = .ok (.goto 11, 3) := by decide +kernel
theorem d_Mo_element_289 : decode prog_8_method_29_code 289 = .ok (.aload_n 0, 1) := by decide +kernel
theorem d_Mo_element_290 : decode prog_8_method_29_code 290 = .ok (.iload 6, 2) := by decide +kernel
theorem d_Mo_element_292 : decode prog_8_method_29_code 292 = .ok (.iload_n 2, 1) := by decide +kernel
theorem d_Mo_element_293 : decode prog_8_method_29_code 293 = .ok (.iload_n 3, 1) := by decide +kernel
theorem d_Mo_element_294 : decode prog_8_method_29_code 294 = .ok (.invokevirtual 111, 3) := by decide +kernel
theorem d_Mo_element_297 : decode prog_8_method_29_code 297 = .ok (.dreturn, 1) := by decide +kernel
theorem d_Mo_element_298 : decode prog_8_method_29_code 298 = .ok (.aload_n 0, 1) := by decide +kernel
theorem d_Mo_element_299 : decode prog_8_method_29_code 299 = .ok (.iload 5, 2) := by decide +kernel
theorem d_Mo_element_301 : decode prog_8_method_29_code 301 = .ok (.iload_n 2, 1) := by decide +kernel
theorem d_Mo_element_302 : decode prog_8_method_29_code 302 = .ok (.iload_n 3, 1) := by decide +kernel
theorem d_Mo_element_303 : decode prog_8_method_29_code 303 = .ok (.aload_n 0, 1) := by decide +kernel
theorem d_Mo_element_304 : decode prog_8_method_29_code 304 = .ok (.getfield 35, 3) := by decide +kernel
theorem d_Mo_element_307 : decode prog_8_method_29_code 307 = .ok (.iload_n 1, 1) := by decide +kernel
theorem d_Mo_element_308 : decode prog_8_method_29_code 308 = .ok (.iaload, 1) := by decide +kernel
theorem d_Mo_element_309 : decode prog_8_method_29_code 309 = .ok (.ifCond .ne 7, 3) := by decide +kernel
theorem d_Mo_element_312 : decode prog_8_method_29_code 312 = .ok (.iconst 1, 1) := by decide +kernel
theorem d_Mo_element_313 : decode prog_8_method_29_code 313 = .ok (.goto 4, 3) := by decide +kernel
theorem d_Mo_element_316 : decode prog_8_method_29_code 316 = .ok (.iconst 0, 1) := by decide +kernel
theorem d_Mo_element_317 : decode prog_8_method_29_code 317 = .ok (.invokevirtual 127, 3) := by decide +kernel
theorem d_Mo_element_320 : decode prog_8_method_29_code 320 = .ok (.dreturn, 1) := by decide +kernel
theorem d_Mo_element_321 : decode prog_8_method_29_code 321 = .ok (.aload_n 0, 1) := by decide +kernel
theorem d_Mo_element_322 : decode prog_8_method_29_code 322 = .ok (.getfield 35, 3) := by decide +kernel
theorem d_Mo_element_325 : decode prog_8_method_29_code 325 = .ok (.iload_n 1, 1) := by decide +kernel
theorem d_Mo_element_326 : decode prog_8_method_29_code 326 = .ok (.iaload, 1) := by decide +kernel
theorem d_Mo_element_327 : decode prog_8_method_29_code 327 = .ok (.ifCond .ne 22, 3) := by decide +kernel
theorem d_Mo_element_330 : decode prog_8_method_29_code 330 = .ok (.aload_n 0, 1) := by decide +kernel
theorem d_Mo_element_331 : decode prog_8_method_29_code 331 = .ok (.iload 5, 2) := by decide +kernel
theorem d_Mo_element_333 : decode prog_8_method_29_code 333 = .ok (.aload_n 0, 1) := by decide +kernel
theorem d_Mo_element_334 : decode prog_8_method_29_code 334 = .ok (.iload 5, 2) := by decide +kernel
theorem d_Mo_element_336 : decode prog_8_method_29_code 336 = .ok (.iload_n 2, 1) := by decide +kernel
theorem d_Mo_element_337 : decode prog_8_method_29_code 337 = .ok (.iload_n 3, 1) := by decide +kernel
theorem d_Mo_element_338 : decode prog_8_method_29_code 338 = .ok (.iconst 1, 1) := by decide +kernel
theorem d_Mo_element_339 : decode prog_8_method_29_code 339 = .ok (.invokevirtual 131, 3) := by decide +kernel
theorem d_Mo_element_342 : decode prog_8_method_29_code 342 = .ok (.iload_n 3, 1) := by decide +kernel
theorem d_Mo_element_343 : decode prog_8_method_29_code 343 = .ok (.invokevirtual 111, 3) := by decide +kernel
theorem d_Mo_element_346 : decode prog_8_method_29_code 346 = .ok (.goto 19, 3) := by decide +kernel
theorem d_Mo_element_349 : decode prog_8_method_29_code 349 = .ok (.aload_n 0, 1) := by decide +kernel
theorem d_Mo_element_350 : decode prog_8_method_29_code 350 = .ok (.iload 5, 2) := by decide +kernel
theorem d_Mo_element_352 : decode prog_8_method_29_code 352 = .ok (.iload_n 2, 1) := by decide +kernel
theorem d_Mo_element_353 : decode prog_8_method_29_code 353 = .ok (.aload_n 0, 1) := by decide +kernel
theorem d_Mo_element_354 : decode prog_8_method_29_code 354 = .ok (.iload 5, 2) := by decide +kernel
theorem d_Mo_element_356 : decode prog_8_method_29_code 356 = .ok (.iload_n 2, 1) := by decide +kernel
theorem d_Mo_element_357 : decode prog_8_method_29_code 357 = .ok (.iload_n 3, 1) := by decide +kernel
theorem d_Mo_element_358 : decode prog_8_method_29_code 358 = .ok (.iconst 0, 1) := by decide +kernel
theorem d_Mo_element_359 : decode prog_8_method_29_code 359 = .ok (.invokevirtual 131, 3) := by decide +kernel
theorem d_Mo_element_362 : decode prog_8_method_29_code 362 = .ok (.invokevirtual 111, 3) := by decide +kernel
theorem d_Mo_element_365 : decode prog_8_method_29_code 365 = .ok (.dreturn, 1) := by decide +kernel
theorem d_Mo_element_366 : decode prog_8_method_29_code 366 = .ok (.aload_n 0, 1) := by decide +kernel
theorem d_Mo_element_367 : decode prog_8_method_29_code 367 = .ok (.iload 5, 2) := by decide +kernel
theorem d_Mo_element_369 : decode prog_8_method_29_code 369 = .ok (.iload_n 2, 1) := by decide +kernel
theorem d_Mo_element_370 : decode prog_8_method_29_code 370 = .ok (.iconst 0, 1) := by decide +kernel
theorem d_Mo_element_371 : decode prog_8_method_29_code 371 = .ok (.iconst 0, 1) := by decide +kernel
theorem d_Mo_element_372 : decode prog_8_method_29_code 372 = .ok (.invokevirtual 131, 3) := by decide +kernel
theorem d_Mo_element_375 : decode prog_8_method_29_code 375 = .ok (.i2d, 1) := by decide +kernel
theorem d_Mo_element_376 : decode prog_8_method_29_code 376 = .ok (.dreturn, 1) := by decide +kernel
theorem d_Mo_element_377 : decode prog_8_method_29_code 377 = .ok (.aload_n 0, 1) := by decide +kernel
theorem d_Mo_element_378 : decode prog_8_method_29_code 378 = .ok (.iload_n 1, 1) := by decide +kernel
theorem d_Mo_element_379 : decode prog_8_method_29_code 379 = .ok (.iload 5, 2) := by decide +kernel
theorem d_Mo_element_381 : decode prog_8_method_29_code 381 = .ok (.iload 6, 2) := by decide +kernel
theorem d_Mo_element_383 : decode prog_8_method_29_code 383 = .ok (.iload_n 2, 1) := by decide +kernel
theorem d_Mo_element_384 : decode prog_8_method_29_code 384 = .ok (.iload_n 3, 1) := by decide +kernel
theorem d_Mo_element_385 : decode prog_8_method_29_code 385 = .ok (.invokevirtual 135, 3) := by decide +kernel
theorem d_Mo_element_388 : decode prog_8_method_29_code 388 = .ok (.dreturn, 1) := by decide +kernel
theorem d_Mo_element_389 : decode prog_8_method_29_code 389 = .ok (.aload_n 0, 1) := by decide +kernel
theorem d_Mo_element_390 : decode prog_8_method_29_code 390 = .ok (.getfield 25, 3) := by decide +kernel
theorem d_Mo_element_393 : decode prog_8_method_29_code 393 = .ok (.iload 5, 2) := by decide +kernel
theorem d_Mo_element_395 : decode prog_8_method_29_code 395 = .ok (.bipush 16, 2) := by decide +kernel
theorem d_Mo_element_397 : decode prog_8_method_29_code 397 = .ok (.imul, 1) := by decide +kernel
theorem d_Mo_element_398 : decode prog_8_method_29_code 398 = .ok (.iload_n 2, 1) := by decide +kernel
theorem d_Mo_element_399 : decode prog_8_method_29_code 399 = .ok (.aload_n 0, 1) := by decide +kernel
theorem d_Mo_element_400 : decode prog_8_method_29_code 400 = .ok (.getfield 35, 3) := by decide +kernel
theorem d_Mo_element_403 : decode prog_8_method_29_code 403 = .ok (.iload_n 1, 1) := by decide +kernel
theorem d_Mo_element_404 : decode prog_8_method_29_code 404 = .ok (.iaload, 1) := by decide +kernel
theorem d_Mo_element_405 : decode prog_8_method_29_code 405 = .ok (.iadd, 1) := by decide +kernel
theorem d_Mo_element_406 : decode prog_8_method_29_code 406 = .ok (.iconst 4, 1) := by decide +kernel
theorem d_Mo_element_407 : decode prog_8_method_29_code 407 = .ok (.imul, 1) := by decide +kernel
theorem d_Mo_element_408 : decode prog_8_method_29_code 408 = .ok (.iadd, 1) := by decide +kernel
theorem d_Mo_element_409 : decode prog_8_method_29_code 409 = .ok (.iload_n 3, 1) := by decide +kernel
theorem d_Mo_element_410 : decode prog_8_method_29_code 410 = .ok (.iadd, 1) := by decide +kernel
theorem d_Mo_element_411 : decode prog_8_method_29_code 411 = .ok (.daload, 1) := by decide +kernel
theorem d_Mo_element_412 : decode prog_8_method_29_code 412 = .ok (.dreturn, 1) := by decide +kernel
theorem d_Mo_element_413 : decode prog_8_method_29_code 413 = .ok (.aload_n 0, 1) := by decide +kernel
theorem d_Mo_element_414 : decode prog_8_method_29_code 414 = .ok (.iload 5, 2) := by decide +kernel
theorem d_Mo_element_416 : decode prog_8_method_29_code 416 = .ok (.iload 6, 2) := by decide +kernel
theorem d_Mo_element_418 : decode prog_8_method_29_code 418 = .ok (.iload_n 2, 1) := by decide +kernel
theorem d_Mo_element_419 : decode prog_8_method_29_code 419 = .ok (.iload_n 3, 1) := by decide +kernel
theorem d_Mo_element_420 : decode prog_8_method_29_code 420 = .ok (.invokevirtual 139, 3) := by decide +kernel
theorem d_Mo_element_423 : decode prog_8_method_29_code 423 = .ok (.dreturn, 1) := by decide +kernel
theorem d_Mo_element_424 : decode prog_8_method_29_code 424 = .ok (.aload_n 0, 1) := by decide +kernel
theorem d_Mo_element_425 : decode prog_8_method_29_code 425 = .ok (.iload_n 1, 1) := by decide +kernel
theorem d_Mo_element_426 : decode prog_8_method_29_code 426 = .ok (.iload 5, 2) := by decide +kernel
theorem d_Mo_element_428 : decode prog_8_method_29_code 428 = .ok (.iload 6, 2) := by decide +kernel
theorem d_Mo_element_430 : decode prog_8_method_29_code 430 = .ok (.iload_n 2, 1) := by decide +kernel
theorem d_Mo_element_431 : decode prog_8_method_29_code 431 = .ok (.iload_n 3, 1) := by decide +kernel
theorem d_Mo_element_432 : decode prog_8_method_29_code 432 = .ok (.invokevirtual 142, 3) := by decide +kernel
theorem d_Mo_element_435 : decode prog_8_method_29_code 435 = .ok (.dreturn, 1) := by decide +kernel
theorem d_Mo_element_436 : decode prog_8_method_29_code 436 = .ok (.aload_n 0, 1) := by decide +kernel
theorem d_Mo_element_437 : decode prog_8_method_29_code 437 = .ok (.getfield 25, 3) := by decide +kernel
theorem d_Mo_element_440 : decode prog_8_method_29_code 440 = .ok (.iload 7, 2) := by decide +kernel
theorem d_Mo_element_442 : decode prog_8_method_29_code 442 = .ok (.bipush 16, 2) := by decide +kernel
theorem d_Mo_element_444 : decode prog_8_method_29_code 444 = .ok (.imul, 1) := by decide +kernel
theorem d_Mo_element_445 : decode prog_8_method_29_code 445 = .ok (.daload, 1) := by decide +kernel
theorem d_Mo_element_446 : decode prog_8_method_29_code 446 = .ok (.dconst 0, 1) := by decide +kernel
theorem d_Mo_element_447 : decode prog_8_method_29_code 447 = .ok (.dcmp .l, 1) := by decide +kernel
theorem d_Mo_element_448 : decode prog_8_method_29_code 448 = .ok (.ifCond .eq 22, 3) := by decide +kernel
theorem d_Mo_element_451 : decode prog_8_method_29_code 451 = .ok (.aload_n 0, 1) := by decide +kernel
theorem d_Mo_element_452 : decode prog_8_method_29_code 452 = .ok (.getfield 25, 3) := by decide +kernel
theorem d_Mo_element_455 : decode prog_8_method_29_code 455 = .ok (.iload 5, 2) := by decide +kernel
theorem d_Mo_element_457 : decode prog_8_method_29_code 457 = .ok (.bipush 16, 2) := by decide +kernel
theorem d_Mo_element_459 : decode prog_8_method_29_code 459 = .ok (.imul, 1) := by decide +kernel
theorem d_Mo_element_460 : decode prog_8_method_29_code 460 = .ok (.iload_n 2, 1) := by decide +kernel
theorem d_Mo_element_461 : decode prog_8_method_29_code 461 = .ok (.iconst 4, 1) := by decide +kernel
theorem d_Mo_element_462 : decode prog_8_method_29_code 462 = .ok (.imul, 1) := by decide +kernel
theorem d_Mo_element_463 : decode prog_8_method_29_code 463 = .ok (.iadd, 1) := by decide +kernel
theorem d_Mo_element_464 : decode prog_8_method_29_code 464 = .ok (.iload_n 3, 1) := by decide +kernel
theorem d_Mo_element_465 : decode prog_8_method_29_code 465 = .ok (.iadd, 1) := by decide +kernel
theorem d_Mo_element_466 : decode prog_8_method_29_code 466 = .ok (.daload, 1) := by decide +kernel
theorem d_Mo_element_467 : decode prog_8_method_29_code 467 = .ok (.goto 19, 3) := by decide +kernel
theorem d_Mo_element_470 : decode prog_8_method_29_code 470 = .ok (.aload_n 0, 1) := by decide +kernel
theorem d_Mo_element_471 : decode prog_8_method_29_code 471 = .ok (.getfield 25, 3) := by decide +kernel
theorem d_Mo_element_474 : decode prog_8_method_29_code 474 = .ok (.iload 6, 2) := by decide +kernel
theorem d_Mo_element_476 : decode prog_8_method_29_code 476 = .ok (.bipush 16, 2) := by decide +kernel
theorem d_Mo_element_478 : decode prog_8_method_29_code 478 = .ok (.imul, 1) := by decide +kernel
theorem d_Mo_element_479 : decode prog_8_method_29_code 479 = .ok (.iload_n 2, 1) := by decide +kernel
theorem d_Mo_element_480 : decode prog_8_method_29_code 480 = .ok (.iconst 4, 1) := by decide +kernel
theorem d_Mo_element_481 : decode prog_8_method_29_code 481 = .ok (.imul, 1) := by decide +kernel
theorem d_Mo_element_482 : decode prog_8_method_29_code 482 = .ok (.iadd, 1) := by decide +kernel
theorem d_Mo_element_483 : decode prog_8_method_29_code 483 = .ok (.iload_n 3, 1) := by decide +kernel
theorem d_Mo_element_484 : decode prog_8_method_29_code 484 = .ok (.iadd, 1) := by decide +kernel
theorem d_Mo_element_485 : decode prog_8_method_29_code 485 = .ok (.daload, 1) := by decide +kernel
theorem d_Mo_element_486 : decode prog_8_method_29_code 486 = .ok (.dreturn, 1) := by decide +kernel
theorem d_Mo_element_487 : decode prog_8_method_29_code 487 = .ok (.aload_n 0, 1) := by decide +kernel
theorem d_Mo_element_488 : decode prog_8_method_29_code 488 = .ok (.iload_n 1, 1) := by decide +kernel
theorem d_Mo_element_489 : decode prog_8_method_29_code 489 = .ok (.aload_n 0, 1) := by decide +kernel
theorem d_Mo_element_490 : decode prog_8_method_29_code 490 = .ok (.iload 5, 2) := by decide +kernel
theorem d_Mo_element_492 : decode prog_8_method_29_code 492 = .ok (.iload_n 2, 1) := by decide +kernel
theorem d_Mo_element_493 : decode prog_8_method_29_code 493 = .ok (.iload_n 3, 1) := by decide +kernel
theorem d_Mo_element_494 : decode prog_8_method_29_code 494 = .ok (.invokevirtual 111, 3) := by decide +kernel
theorem d_Mo_element_497 : decode prog_8_method_29_code 497 = .ok (.invokevirtual 145, 3) := by decide +kernel
theorem d_Mo_element_500 : decode prog_8_method_29_code 500 = .ok (.dreturn, 1) := by decide +kernel
theorem d_Mo_at_0 : decode prog_8_method_18_code 0 = .ok (.aload_n 0, 1) := by decide +kernel
theorem d_Mo_at_1 : decode prog_8_method_18_code 1 = .ok (.getfield 25, 3) := by decide +kernel
theorem d_Mo_at_4 : decode prog_8_method_18_code 4 = .ok (.iload_n 1, 1) := by decide +kernel
theorem d_Mo_at_5 : decode prog_8_method_18_code 5 = .ok (.bipush 16, 2) := by decide +kernel
theorem d_Mo_at_7 : decode prog_8_method_18_code 7 = .ok (.imul, 1) := by decide +kernel
theorem d_Mo_at_8 : decode prog_8_method_18_code 8 = .ok (.aload_n 0, 1) := by decide +kernel
theorem d_Mo_at_9 : decode prog_8_method_18_code 9 = .ok (.getfield 16, 3) := by decide +kernel
theorem d_Mo_at_12 : decode prog_8_method_18_code 12 = .ok (.iload_n 1, 1) := by decide +kernel
theorem d_Mo_at_13 : decode prog_8_method_18_code 13 = .ok (.iaload, 1) := by decide +kernel
theorem d_Mo_at_14 : decode prog_8_method_18_code 14 = .ok (.iconst 1, 1) := by decide +kernel
theorem d_Mo_at_15 : decode prog_8_method_18_code 15 = .ok (.if_icmp .ne 7, 3) := by decide +kernel
theorem d_Mo_at_18 : decode prog_8_method_18_code 18 = .ok (.iconst 0, 1) := by decide +kernel
theorem d_Mo_at_19 : decode prog_8_method_18_code 19 = .ok (.goto 4, 3) := by decide +kernel
theorem d_Mo_at_22 : decode prog_8_method_18_code 22 = .ok (.iload_n 2, 1) := by decide +kernel
theorem d_Mo_at_23 : decode prog_8_method_18_code 23 = .ok (.iconst 4, 1) := by decide +kernel
theorem d_Mo_at_24 : decode prog_8_method_18_code 24 = .ok (.imul, 1) := by decide +kernel
theorem d_Mo_at_25 : decode prog_8_method_18_code 25 = .ok (.iadd, 1) := by decide +kernel
theorem d_Mo_at_26 : decode prog_8_method_18_code 26 = .ok (.aload_n 0, 1) := by decide +kernel
theorem d_Mo_at_27 : decode prog_8_method_18_code 27 = .ok (.getfield 19, 3) := by decide +kernel
theorem d_Mo_at_30 : decode prog_8_method_18_code 30 = .ok (.iload_n 1, 1) := by decide +kernel
theorem d_Mo_at_31 : decode prog_8_method_18_code 31 = .ok (.iaload, 1) := by decide +kernel
theorem d_Mo_at_32 : decode prog_8_method_18_code 32 = .ok (.iconst 1, 1) := by decide +kernel
theorem d_Mo_at_33 : decode prog_8_method_18_code 33 = .ok (.if_icmp .ne 7, 3) := by decide +kernel
theorem d_Mo_at_36 : decode prog_8_method_18_code 36 = .ok (.iconst 0, 1) := by decide +kernel
theorem d_Mo_at_37 : decode prog_8_method_18_code 37 = .ok (.goto 4, 3) := by decide +kernel
theorem d_Mo_at_40 : decode prog_8_method_18_code 40 = .ok (.iload_n 3, 1) := by decide +kernel
theorem d_Mo_at_41 : decode prog_8_method_18_code 41 = .ok (.iadd, 1) := by decide +kernel
theorem d_Mo_at_42 : decode prog_8_method_18_code 42 = .ok (.daload, 1) := by decide +kernel
theorem d_Mo_at_43 : decode prog_8_method_18_code 43 = .ok (.dreturn, 1) := by decide +kernel
theorem d_Mo_plain_0 : decode prog_8_method_19_code 0 = .ok (.iload 6, 2) := by decide +kernel
theorem d_Mo_plain_2 : decode prog_8_method_19_code 2 = .ok (.ifCond .eq 84, 3) := by decide +kernel
theorem d_Mo_plain_5 : decode prog_8_method_19_code 5 = .ok (.dload_n 2, 1) := by decide +kernel
theorem d_Mo_plain_6 : decode prog_8_method_19_code 6 = .ok (.d2i, 1) := by decide +kernel
theorem d_Mo_plain_7 : decode prog_8_method_19_code 7 = .ok (.istore 7, 2) := by decide +kernel
theorem d_Mo_plain_9 : decode prog_8_method_19_code 9 = .ok (.dload 4, 2) := by decide +kernel
theorem d_Mo_plain_11 : decode prog_8_method_19_code 11 = .ok (.d2i, 1) := by decide +kernel
theorem d_Mo_plain_12 : decode prog_8_method_19_code 12 = .ok (.istore 8, 2) := by decide +kernel
theorem d_Mo_plain_14 : decode prog_8_method_19_code 14 = .ok (.iload_n 1, 1) := by decide +kernel
theorem d_Mo_plain_15 : decode prog_8_method_19_code 15 = .ok (.iconst 3, 1) := by decide +kernel
theorem d_Mo_plain_16 : decode prog_8_method_19_code 16 = .ok (.if_icmp .ne 13, 3) := by decide +kernel
theorem d_Mo_plain_19 : decode prog_8_method_19_code 19 = .ok (.iload 8, 2) := by decide +kernel
theorem d_Mo_plain_21 : decode prog_8_method_19_code 21 = .ok (.ifCond .ne 8, 3) := by decide +kernel
theorem d_Mo_plain_24 : decode prog_8_method_19_code 24 = .ok (.aload_n 0, 1) := by decide +kernel
theorem d_Mo_plain_25 : decode prog_8_method_19_code 25 = .ok (.iconst 3, 1) := by decide +kernel
theorem d_Mo_plain_26 : decode prog_8_method_19_code 26 = .ok (.invokevirtual 104, 3) := by decide +kernel
theorem d_Mo_plain_29 : decode prog_8_method_19_code 29 = .ok (.iload_n 1, 1) := by decide +kernel
theorem d_Mo_plain_30 : decode prog_8_method_19_code 30 = .ok (.ifCond .ne 12, 3) := by decide +kernel
theorem d_Mo_plain_33 : decode prog_8_method_19_code 33 = .ok (.iload 7, 2) := by decide +kernel
theorem d_Mo_plain_35 : decode prog_8_method_19_code 35 = .ok (.iload 8, 2) := by decide +kernel
theorem d_Mo_plain_37 : decode prog_8_method_19_code 37 = .ok (.iadd, 1) := by decide +kernel
theorem d_Mo_plain_38 : decode prog_8_method_19_code 38 = .ok (.i2d, 1) := by decide +kernel
theorem d_Mo_plain_39 : decode prog_8_method_19_code 39 = .ok (.goto 46, 3) := by decide +kernel
theorem d_Mo_plain_42 : decode prog_8_method_19_code 42 = .ok (.iload_n 1, 1) := by decide +kernel
theorem d_Mo_plain_43 : decode prog_8_method_19_code 43 = .ok (.iconst 1, 1) := by decide +kernel
theorem d_Mo_plain_44 : decode prog_8_method_19_code 44 = .ok (.if_icmp .ne 12, 3) := by decide +kernel
theorem d_Mo_plain_47 : decode prog_8_method_19_code 47 = .ok (.iload 7, 2) := by decide +kernel
theorem d_Mo_plain_49 : decode prog_8_method_19_code 49 = .ok (.iload 8, 2) := by decide +kernel
theorem d_Mo_plain_51 : decode prog_8_method_19_code 51 = .ok (.isub, 1) := by decide +kernel
theorem d_Mo_plain_52 : decode prog_8_method_19_code 52 = .ok (.i2d, 1) := by decide +kernel
theorem d_Mo_plain_53 : decode prog_8_method_19_code 53 = .ok (.goto 32, 3) := by decide +kernel
theorem d_Mo_plain_56 : decode prog_8_method_19_code 56 = .ok (.iload_n 1, 1) := by decide +kernel
theorem d_Mo_plain_57 : decode prog_8_method_19_code 57 = .ok (.iconst 2, 1) := by decide +kernel
theorem d_Mo_plain_58 : decode prog_8_method_19_code 58 = .ok (.if_icmp .ne 12, 3) := by decide +kernel
theorem d_Mo_plain_61 : decode prog_8_method_19_code 61 = .ok (.iload 7, 2) := by decide +kernel
theorem d_Mo_plain_63 : decode prog_8_method_19_code 63 = .ok (.iload 8, 2) := by decide +kernel
theorem d_Mo_plain_65 : decode prog_8_method_19_code 65 = .ok (.imul, 1) := by decide +kernel
theorem d_Mo_plain_66 : decode prog_8_method_19_code 66 = .ok (.i2d, 1) := by decide +kernel
theorem d_Mo_plain_67 : decode prog_8_method_19_code 67 = .ok (.goto 18, 3) := by decide +kernel
theorem d_Mo_plain_70 : decode prog_8_method_19_code 70 = .ok (.iload 8, 2) := by decide +kernel
theorem d_Mo_plain_72 : decode prog_8_method_19_code 72 = .ok (.ifCond .ne 7, 3) := by decide +kernel
theorem d_Mo_plain_75 : decode prog_8_method_19_code 75 = .ok (.dconst 0, 1) := by decide +kernel
theorem d_Mo_plain_76 : decode prog_8_method_19_code 76 = .ok (.goto 9, 3) := by decide +kernel
theorem d_Mo_plain_79 : decode prog_8_method_19_code 79 = .ok (.iload 7, 2) := by decide +kernel
theorem d_Mo_plain_81 : decode prog_8_method_19_code 81 = .ok (.iload 8, 2) := by decide +kernel
theorem d_Mo_plain_83 : decode prog_8_method_19_code 83 = .ok (.idiv, 1) := by decide +kernel
theorem d_Mo_plain_84 : decode prog_8_method_19_code 84 = .ok (.i2d, 1) := by decide +kernel
theorem d_Mo_plain_85 : decode prog_8_method_19_code 85 = .ok (.dreturn, 1) := by decide +kernel
theorem d_Mo_plain_86 : decode prog_8_method_19_code 86 = .ok (.iload_n 1, 1) := by decide +kernel
theorem d_Mo_plain_87 : decode prog_8_method_19_code 87 = .ok (.iconst 3, 1) := by decide +kernel
theorem d_Mo_plain_88 : decode prog_8_method_19_code 88 = .ok (.if_icmp .ne 15, 3) := by decide +kernel
theorem d_Mo_plain_91 : decode prog_8_method_19_code 91 = .ok (.dload 4, 2) := by decide +kernel
theorem d_Mo_plain_93 : decode prog_8_method_19_code 93 = .ok (.dconst 0, 1) := by decide +kernel
theorem d_Mo_plain_94 : decode prog_8_method_19_code 94 = .ok (.dcmp .l, 1) := by decide +kernel
theorem d_Mo_plain_95 : decode prog_8_method_19_code 95 = .ok (.ifCond .ne 8, 3) := by decide +kernel
theorem d_Mo_plain_98 : decode prog_8_method_19_code 98 = .ok (.aload_n 0, 1) := by decide +kernel
theorem d_Mo_plain_99 : decode prog_8_method_19_code 99 = .ok (.iconst 3, 1) := by decide +kernel
theorem d_Mo_plain_100 : decode prog_8_method_19_code 100 = .ok (.invokevirtual 104, 3) := by decide +kernel
theorem d_Mo_plain_103 : decode prog_8_method_19_code 103 = .ok (.iload_n 1, 1) := by decide +kernel
theorem d_Mo_plain_104 : decode prog_8_method_19_code 104 = .ok (.ifCond .ne 10, 3) := by decide +kernel
theorem d_Mo_plain_107 : decode prog_8_method_19_code 107 = .ok (.dload_n 2, 1) := by decide +kernel
theorem d_Mo_plain_108 : decode prog_8_method_19_code 108 = .ok (.dload 4, 2) := by decide +kernel
theorem d_Mo_plain_110 : decode prog_8_method_19_code 110 = .ok (.dadd, 1) := by decide +kernel
theorem d_Mo_plain_111 : decode prog_8_method_19_code 111 = .ok (.goto 42, 3) := by decide +kernel
theorem d_Mo_plain_114 : decode prog_8_method_19_code 114 = .ok (.iload_n 1, 1) := by decide +kernel
theorem d_Mo_plain_115 : decode prog_8_method_19_code 115 = .ok (.iconst 1, 1) := by decide +kernel
theorem d_Mo_plain_116 : decode prog_8_method_19_code 116 = .ok (.if_icmp .ne 10, 3) := by decide +kernel
theorem d_Mo_plain_119 : decode prog_8_method_19_code 119 = .ok (.dload_n 2, 1) := by decide +kernel
theorem d_Mo_plain_120 : decode prog_8_method_19_code 120 = .ok (.dload 4, 2) := by decide +kernel
theorem d_Mo_plain_122 : decode prog_8_method_19_code 122 = .ok (.dsub, 1) := by decide +kernel
theorem d_Mo_plain_123 : decode prog_8_method_19_code 123 = .ok (.goto 30, 3) := by decide +kernel
theorem d_Mo_plain_126 : decode prog_8_method_19_code 126 = .ok (.iload_n 1, 1) := by decide +kernel
theorem d_Mo_plain_127 : decode prog_8_method_19_code 127 = .ok (.iconst 2, 1) := by decide +kernel
theorem d_Mo_plain_128 : decode prog_8_method_19_code 128 = .ok (.if_icmp .ne 10, 3) := by decide +kernel
theorem d_Mo_plain_131 : decode prog_8_method_19_code 131 = .ok (.dload_n 2, 1) := by decide +kernel
theorem d_Mo_plain_132 : decode prog_8_method_19_code 132 = .ok (.dload 4, 2) := by decide +kernel
theorem d_Mo_plain_134 : decode prog_8_method_19_code 134 = .ok (.dmul, 1) := by decide +kernel
theorem d_Mo_plain_135 : decode prog_8_method_19_code 135 = .ok (.goto 18, 3) := by decide +kernel
theorem d_Mo_plain_138 : decode prog_8_method_19_code 138 = .ok (.dload 4, 2) := by decide +kernel
theorem d_Mo_plain_140 : decode prog_8_method_19_code 140 = .ok (.dconst 0, 1) := by decide +kernel
theorem d_Mo_plain_141 : decode prog_8_method_19_code 141 = .ok (.dcmp .l, 1) := by decide +kernel
theorem d_Mo_plain_142 : decode prog_8_method_19_code 142 = .ok (.ifCond .ne 7, 3) := by decide +kernel
theorem d_Mo_plain_145 : decode prog_8_method_19_code 145 = .ok (.dconst 0, 1) := by decide +kernel
theorem d_Mo_plain_146 : decode prog_8_method_19_code 146 = .ok (.goto 7, 3) := by decide +kernel
theorem d_Mo_plain_149 : decode prog_8_method_19_code 149 = .ok (.dload_n 2, 1) := by decide +kernel
theorem d_Mo_plain_150 : decode prog_8_method_19_code 150 = .ok (.dload 4, 2) := by decide +kernel
theorem d_Mo_plain_152 : decode prog_8_method_19_code 152 = .ok (.ddiv, 1) := by decide +kernel
theorem d_Mo_plain_153 : decode prog_8_method_19_code 153 = .ok (.dreturn, 1) := by decide +kernel
theorem d_Mo_trouble_0 : decode prog_8_method_20_code 0 = .ok (.aload_n 0, 1) := by decide +kernel
theorem d_Mo_trouble_1 : decode prog_8_method_20_code 1 = .ok (.getfield 108, 3) := by decide +kernel
theorem d_Mo_trouble_4 : decode prog_8_method_20_code 4 = .ok (.ifCond .ne 8, 3) := by decide +kernel
theorem d_Mo_trouble_7 : decode prog_8_method_20_code 7 = .ok (.aload_n 0, 1) := by decide +kernel
theorem d_Mo_trouble_8 : decode prog_8_method_20_code 8 = .ok (.iload_n 1, 1) := by decide +kernel
theorem d_Mo_trouble_9 : decode prog_8_method_20_code 9 = .ok (.putfield 108, 3) := by decide +kernel
theorem d_Mo_trouble_12 : decode prog_8_method_20_code 12 = .ok (.return_, 1) := by decide +kernel
theorem d_Mo_product_0 : decode prog_8_method_24_code 0 = .ok (.dconst 0, 1) := by decide +kernel
theorem d_Mo_product_1 : decode prog_8_method_24_code 1 = .ok (.dstore 5, 2) := by decide +kernel
theorem d_Mo_product_3 : decode prog_8_method_24_code 3 = .ok (.iconst 0, 1) := by decide +kernel
theorem d_Mo_product_4 : decode prog_8_method_24_code 4 = .ok (.istore 7, 2) := by decide +kernel
theorem d_Mo_product_6 : decode prog_8_method_24_code 6 = .ok (.iload 7, 2) := by decide +kernel
theorem d_Mo_product_8 : decode prog_8_method_24_code 8 = .ok (.aload_n 0, 1) := by decide +kernel
theorem d_Mo_product_9 : decode prog_8_method_24_code 9 = .ok (.getfield 19, 3) := by decide +kernel
theorem d_Mo_product_12 : decode prog_8_method_24_code 12 = .ok (.iload_n 1, 1) := by decide +kernel
theorem d_Mo_product_13 : decode prog_8_method_24_code 13 = .ok (.iaload, 1) := by decide +kernel
theorem d_Mo_product_14 : decode prog_8_method_24_code 14 = .ok (.if_icmp .ge 48, 3) := by decide +kernel
theorem d_Mo_product_17 : decode prog_8_method_24_code 17 = .ok (.dload 5, 2) := by decide +kernel
theorem d_Mo_product_19 : decode prog_8_method_24_code 19 = .ok (.aload_n 0, 1) := by decide +kernel
theorem d_Mo_product_20 : decode prog_8_method_24_code 20 = .ok (.getfield 25, 3) := by decide +kernel
theorem d_Mo_product_23 : decode prog_8_method_24_code 23 = .ok (.iload_n 1, 1) := by decide +kernel
theorem d_Mo_product_24 : decode prog_8_method_24_code 24 = .ok (.bipush 16, 2) := by decide +kernel
theorem d_Mo_product_26 : decode prog_8_method_24_code 26 = .ok (.imul, 1) := by decide +kernel
theorem d_Mo_product_27 : decode prog_8_method_24_code 27 = .ok (.iload_n 3, 1) := by decide +kernel
theorem d_Mo_product_28 : decode prog_8_method_24_code 28 = .ok (.iconst 4, 1) := by decide +kernel
theorem d_Mo_product_29 : decode prog_8_method_24_code 29 = .ok (.imul, 1) := by decide +kernel
theorem d_Mo_product_30 : decode prog_8_method_24_code 30 = .ok (.iadd, 1) := by decide +kernel
theorem d_Mo_product_31 : decode prog_8_method_24_code 31 = .ok (.iload 7, 2) := by decide +kernel
theorem d_Mo_product_33 : decode prog_8_method_24_code 33 = .ok (.iadd, 1) := by decide +kernel
