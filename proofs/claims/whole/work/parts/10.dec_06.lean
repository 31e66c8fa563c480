theorem d_Mo_node_169 : decode prog_8_method_9_code 169 = .ok (.iconst 0, 1) := by decide +kernel
theorem d_Mo_node_170 : decode prog_8_method_9_code 170 = .ok (.ireturn, 1) := by decide +kernel
theorem d_Mo_node_171 : decode prog_8_method_9_code 171 = .ok (.aload_n 0, 1) := by decide +kernel
theorem d_Mo_node_172 : decode prog_8_method_9_code 172 = .ok (.dup, 1) := by decide +kernel
theorem d_Mo_node_173 : decode prog_8_method_9_code 173 = .ok (.getfield 82, 3) := by decide +kernel
theorem d_Mo_node_176 : decode prog_8_method_9_code 176 = .ok (.dup_x1, 1) := by decide +kernel
theorem d_Mo_node_177 : decode prog_8_method_9_code 177 = .ok (.iconst 1, 1) := by decide +kernel
theorem d_Mo_node_178 : decode prog_8_method_9_code 178 = .ok (.iadd, 1) := by decide +kernel
theorem d_Mo_node_179 : decode prog_8_method_9_code 179 = .ok (.putfield 82, 3) := by decide +kernel
theorem d_Mo_node_182 : decode prog_8_method_9_code 182 = .ok (.istore 9, 2) := by decide +kernel
theorem d_Mo_node_184 : decode prog_8_method_9_code 184 = .ok (.aload_n 0, 1) := by decide +kernel
theorem d_Mo_node_185 : decode prog_8_method_9_code 185 = .ok (.getfield 29, 3) := by decide +kernel
theorem d_Mo_node_188 : decode prog_8_method_9_code 188 = .ok (.iload 9, 2) := by decide +kernel
theorem d_Mo_node_190 : decode prog_8_method_9_code 190 = .ok (.iload_n 1, 1) := by decide +kernel
theorem d_Mo_node_191 : decode prog_8_method_9_code 191 = .ok (.iastore, 1) := by decide +kernel
theorem d_Mo_node_192 : decode prog_8_method_9_code 192 = .ok (.aload_n 0, 1) := by decide +kernel
theorem d_Mo_node_193 : decode prog_8_method_9_code 193 = .ok (.getfield 47, 3) := by decide +kernel
theorem d_Mo_node_196 : decode prog_8_method_9_code 196 = .ok (.iload 9, 2) := by decide +kernel
theorem d_Mo_node_198 : decode prog_8_method_9_code 198 = .ok (.iconst 3, 1) := by decide +kernel
theorem d_Mo_node_199 : decode prog_8_method_9_code 199 = .ok (.imul, 1) := by decide +kernel
theorem d_Mo_node_200 : decode prog_8_method_9_code 200 = .ok (.iload_n 2, 1) := by decide +kernel
theorem d_Mo_node_201 : decode prog_8_method_9_code 201 = .ok (.iastore, 1) := by decide +kernel
theorem d_Mo_node_202 : decode prog_8_method_9_code 202 = .ok (.aload_n 0, 1) := by decide +kernel
theorem d_Mo_node_203 : decode prog_8_method_9_code 203 = .ok (.getfield 47, 3) := by decide +kernel
theorem d_Mo_node_206 : decode prog_8_method_9_code 206 = .ok (.iload 9, 2) := by decide +kernel
theorem d_Mo_node_208 : decode prog_8_method_9_code 208 = .ok (.iconst 3, 1) := by decide +kernel
theorem d_Mo_node_209 : decode prog_8_method_9_code 209 = .ok (.imul, 1) := by decide +kernel
theorem d_Mo_node_210 : decode prog_8_method_9_code 210 = .ok (.iconst 1, 1) := by decide +kernel
theorem d_Mo_node_211 : decode prog_8_method_9_code 211 = .ok (.iadd, 1) := by decide +kernel
theorem d_Mo_node_212 : decode prog_8_method_9_code 212 = .ok (.iload_n 3, 1) := by decide +kernel
theorem d_Mo_node_213 : decode prog_8_method_9_code 213 = .ok (.iastore, 1) := by decide +kernel
theorem d_Mo_node_214 : decode prog_8_method_9_code 214 = .ok (.aload_n 0, 1) := by decide +kernel
theorem d_Mo_node_215 : decode prog_8_method_9_code 215 = .ok (.getfield 47, 3) := by decide +kernel
theorem d_Mo_node_218 : decode prog_8_method_9_code 218 = .ok (.iload 9, 2) := by decide +kernel
theorem d_Mo_node_220 : decode prog_8_method_9_code 220 = .ok (.iconst 3, 1) := by decide +kernel
theorem d_Mo_node_221 : decode prog_8_method_9_code 221 = .ok (.imul, 1) := by decide +kernel
theorem d_Mo_node_222 : decode prog_8_method_9_code 222 = .ok (.iconst 2, 1) := by decide +kernel
theorem d_Mo_node_223 : decode prog_8_method_9_code 223 = .ok (.iadd, 1) := by decide +kernel
theorem d_Mo_node_224 : decode prog_8_method_9_code 224 = .ok (.iload 4, 2) := by decide +kernel
theorem d_Mo_node_226 : decode prog_8_method_9_code 226 = .ok (.iastore, 1) := by decide +kernel
theorem d_Mo_node_227 : decode prog_8_method_9_code 227 = .ok (.aload_n 0, 1) := by decide +kernel
theorem d_Mo_node_228 : decode prog_8_method_9_code 228 = .ok (.getfield 32, 3) := by decide +kernel
theorem d_Mo_node_231 : decode prog_8_method_9_code 231 = .ok (.iload 9, 2) := by decide +kernel
theorem d_Mo_node_233 : decode prog_8_method_9_code 233 = .ok (.iload 5, 2) := by decide +kernel
theorem d_Mo_node_235 : decode prog_8_method_9_code 235 = .ok (.iastore, 1) := by decide +kernel
theorem d_Mo_node_236 : decode prog_8_method_9_code 236 = .ok (.aload_n 0, 1) := by decide +kernel
theorem d_Mo_node_237 : decode prog_8_method_9_code 237 = .ok (.getfield 35, 3) := by decide +kernel
theorem d_Mo_node_240 : decode prog_8_method_9_code 240 = .ok (.iload 9, 2) := by decide +kernel
theorem d_Mo_node_242 : decode prog_8_method_9_code 242 = .ok (.iload 6, 2) := by decide +kernel
theorem d_Mo_node_244 : decode prog_8_method_9_code 244 = .ok (.iastore, 1) := by decide +kernel
theorem d_Mo_node_245 : decode prog_8_method_9_code 245 = .ok (.aload_n 0, 1) := by decide +kernel
theorem d_Mo_node_246 : decode prog_8_method_9_code 246 = .ok (.getfield 38, 3) := by decide +kernel
theorem d_Mo_node_249 : decode prog_8_method_9_code 249 = .ok (.iload 9, 2) := by decide +kernel
theorem d_Mo_node_251 : decode prog_8_method_9_code 251 = .ok (.iload 7, 2) := by decide +kernel
theorem d_Mo_node_253 : decode prog_8_method_9_code 253 = .ok (.iastore, 1) := by decide +kernel
theorem d_Mo_node_254 : decode prog_8_method_9_code 254 = .ok (.aload_n 0, 1) := by decide +kernel
theorem d_Mo_node_255 : decode prog_8_method_9_code 255 = .ok (.getfield 7, 3) := by decide +kernel
theorem d_Mo_node_258 : decode prog_8_method_9_code 258 = .ok (.iload 5, 2) := by decide +kernel
theorem d_Mo_node_260 : decode prog_8_method_9_code 260 = .ok (.iconst 3, 1) := by decide +kernel
theorem d_Mo_node_261 : decode prog_8_method_9_code 261 = .ok (.iastore, 1) := by decide +kernel
theorem d_Mo_node_262 : decode prog_8_method_9_code 262 = .ok (.aload_n 0, 1) := by decide +kernel
theorem d_Mo_node_263 : decode prog_8_method_9_code 263 = .ok (.getfield 22, 3) := by decide +kernel
theorem d_Mo_node_266 : decode prog_8_method_9_code 266 = .ok (.iload 5, 2) := by decide +kernel
theorem d_Mo_node_268 : decode prog_8_method_9_code 268 = .ok (.iload 9, 2) := by decide +kernel
theorem d_Mo_node_270 : decode prog_8_method_9_code 270 = .ok (.iastore, 1) := by decide +kernel
theorem d_Mo_node_271 : decode prog_8_method_9_code 271 = .ok (.aload_n 0, 1) := by decide +kernel
theorem d_Mo_node_272 : decode prog_8_method_9_code 272 = .ok (.invokevirtual 71, 3) := by decide +kernel
theorem d_Mo_node_275 : decode prog_8_method_9_code 275 = .ok (.iload 9, 2) := by decide +kernel
theorem d_Mo_node_277 : decode prog_8_method_9_code 277 = .ok (.ireturn, 1) := by decide +kernel
theorem d_Mo_arity_0 : decode prog_8_method_8_code 0 = .ok (.iload_n 1, 1) := by decide +kernel
theorem d_Mo_arity_1 : decode prog_8_method_8_code 1 = .ok (.bipush 9, 2) := by decide +kernel
theorem d_Mo_arity_3 : decode prog_8_method_8_code 3 = .ok (.if_icmp .eq 9, 3) := by decide +kernel
theorem d_Mo_arity_6 : decode prog_8_method_8_code 6 = .ok (.iload_n 1, 1) := by decide +kernel
theorem d_Mo_arity_7 : decode prog_8_method_8_code 7 = .ok (.bipush 17, 2) := by decide +kernel
theorem d_Mo_arity_9 : decode prog_8_method_8_code 9 = .ok (.if_icmp .ne 5, 3) := by decide +kernel
theorem d_Mo_arity_12 : decode prog_8_method_8_code 12 = .ok (.iconst 3, 1) := by decide +kernel
theorem d_Mo_arity_13 : decode prog_8_method_8_code 13 = .ok (.ireturn, 1) := by decide +kernel
theorem d_Mo_arity_14 : decode prog_8_method_8_code 14 = .ok (.iload_n 1, 1) := by decide +kernel
theorem d_Mo_arity_15 : decode prog_8_method_8_code 15 = .ok (.iconst 4, 1) := by decide +kernel
theorem d_Mo_arity_16 : decode prog_8_method_8_code 16 = .ok (.if_icmp .le 27, 3) := by decide +kernel
theorem d_Mo_arity_19 : decode prog_8_method_8_code 19 = .ok (.iload_n 1, 1) := by decide +kernel
theorem d_Mo_arity_20 : decode prog_8_method_8_code 20 = .ok (.bipush 8, 2) := by decide +kernel
theorem d_Mo_arity_22 : decode prog_8_method_8_code 22 = .ok (.if_icmp .eq 21, 3) := by decide +kernel
theorem d_Mo_arity_25 : decode prog_8_method_8_code 25 = .ok (.iload_n 1, 1) := by decide +kernel
theorem d_Mo_arity_26 : decode prog_8_method_8_code 26 = .ok (.bipush 13, 2) := by decide +kernel
theorem d_Mo_arity_28 : decode prog_8_method_8_code 28 = .ok (.if_icmp .eq 15, 3) := by decide +kernel
theorem d_Mo_arity_31 : decode prog_8_method_8_code 31 = .ok (.iload_n 1, 1) := by decide +kernel
theorem d_Mo_arity_32 : decode prog_8_method_8_code 32 = .ok (.bipush 15, 2) := by decide +kernel
theorem d_Mo_arity_34 : decode prog_8_method_8_code 34 = .ok (.if_icmp .eq 9, 3) := by decide +kernel
theorem d_Mo_arity_37 : decode prog_8_method_8_code 37 = .ok (.iload_n 1, 1) := by decide +kernel
theorem d_Mo_arity_38 : decode prog_8_method_8_code 38 = .ok (.bipush 16, 2) := by decide +kernel
theorem d_Mo_arity_40 : decode prog_8_method_8_code 40 = .ok (.if_icmp .ne 7, 3) := by decide +kernel
theorem d_Mo_arity_43 : decode prog_8_method_8_code 43 = .ok (.iconst 2, 1) := by decide +kernel
theorem d_Mo_arity_44 : decode prog_8_method_8_code 44 = .ok (.goto 4, 3) := by decide +kernel
theorem d_Mo_arity_47 : decode prog_8_method_8_code 47 = .ok (.iconst 1, 1) := by decide +kernel
theorem d_Mo_arity_48 : decode prog_8_method_8_code 48 = .ok (.ireturn, 1) := by decide +kernel
theorem d_Mo_undo_0 : decode prog_8_method_10_code 0 = .ok (.aload_n 0, 1) := by decide +kernel
theorem d_Mo_undo_1 : decode prog_8_method_10_code 1 = .ok (.aload_n 0, 1) := by decide +kernel
theorem d_Mo_undo_2 : decode prog_8_method_10_code 2 = .ok (.getfield 82, 3) := by decide +kernel
theorem d_Mo_undo_5 : decode prog_8_method_10_code 5 = .ok (.ifCond .ne 7, 3) := by decide +kernel
theorem d_Mo_undo_8 : decode prog_8_method_10_code 8 = .ok (.iconst 1, 1) := by decide +kernel
theorem d_Mo_undo_9 : decode prog_8_method_10_code 9 = .ok (.goto 4, 3) := by decide +kernel
theorem d_Mo_undo_12 : decode prog_8_method_10_code 12 = .ok (.iconst 0, 1) := by decide +kernel
theorem d_Mo_undo_13 : decode prog_8_method_10_code 13 = .ok (.putfield 57, 3) := by decide +kernel
theorem d_Mo_undo_16 : decode prog_8_method_10_code 16 = .ok (.aload_n 0, 1) := by decide +kernel
theorem d_Mo_undo_17 : decode prog_8_method_10_code 17 = .ok (.getfield 57, 3) := by decide +kernel
theorem d_Mo_undo_20 : decode prog_8_method_10_code 20 = .ok (.ifCond .eq 4, 3) := by decide +kernel
theorem d_Mo_undo_23 : decode prog_8_method_10_code 23 = .ok (.return_, 1) := by decide +kernel
theorem d_Mo_undo_24 : decode prog_8_method_10_code 24 = .ok (.aload_n 0, 1) := by decide +kernel
theorem d_Mo_undo_25 : decode prog_8_method_10_code 25 = .ok (.dup, 1) := by decide +kernel
theorem d_Mo_undo_26 : decode prog_8_method_10_code 26 = .ok (.getfield 82, 3) := by decide +kernel
theorem d_Mo_undo_29 : decode prog_8_method_10_code 29 = .ok (.iconst 1, 1) := by decide +kernel
theorem d_Mo_undo_30 : decode prog_8_method_10_code 30 = .ok (.isub, 1) := by decide +kernel
theorem d_Mo_undo_31 : decode prog_8_method_10_code 31 = .ok (.putfield 82, 3) := by decide +kernel
theorem d_Mo_undo_34 : decode prog_8_method_10_code 34 = .ok (.aload_n 0, 1) := by decide +kernel
theorem d_Mo_undo_35 : decode prog_8_method_10_code 35 = .ok (.getfield 7, 3) := by decide +kernel
theorem d_Mo_undo_38 : decode prog_8_method_10_code 38 = .ok (.aload_n 0, 1) := by decide +kernel
theorem d_Mo_undo_39 : decode prog_8_method_10_code 39 = .ok (.getfield 32, 3) := by decide +kernel
theorem d_Mo_undo_42 : decode prog_8_method_10_code 42 = .ok (.aload_n 0, 1) := by decide +kernel
theorem d_Mo_undo_43 : decode prog_8_method_10_code 43 = .ok (.getfield 82, 3) := by decide +kernel
theorem d_Mo_undo_46 : decode prog_8_method_10_code 46 = .ok (.iaload, 1) := by decide +kernel
theorem d_Mo_undo_47 : decode prog_8_method_10_code 47 = .ok (.iconst 0, 1) := by decide +kernel
theorem d_Mo_undo_48 : decode prog_8_method_10_code 48 = .ok (.iastore, 1) := by decide +kernel
theorem d_Mo_undo_49 : decode prog_8_method_10_code 49 = .ok (.aload_n 0, 1) := by decide +kernel
theorem d_Mo_undo_50 : decode prog_8_method_10_code 50 = .ok (.invokevirtual 71, 3) := by decide +kernel
theorem d_Mo_undo_53 : decode prog_8_method_10_code 53 = .ok (.return_, 1) := by decide +kernel
theorem d_Mo_prepare_0 : decode prog_8_method_31_code 0 = .ok (.aload_n 0, 1) := by decide +kernel
theorem d_Mo_prepare_1 : decode prog_8_method_31_code 1 = .ok (.iconst 0, 1) := by decide +kernel
theorem d_Mo_prepare_2 : decode prog_8_method_31_code 2 = .ok (.putfield 57, 3) := by decide +kernel
theorem d_Mo_prepare_5 : decode prog_8_method_31_code 5 = .ok (.aload_n 0, 1) := by decide +kernel
theorem d_Mo_prepare_6 : decode prog_8_method_31_code 6 = .ok (.getfield 53, 3) := by decide +kernel
theorem d_Mo_prepare_9 : decode prog_8_method_31_code 9 = .ok (.ifCond .eq 8, 3) := by decide +kernel
theorem d_Mo_prepare_12 : decode prog_8_method_31_code 12 = .ok (.aload_n 0, 1) := by decide +kernel
theorem d_Mo_prepare_13 : decode prog_8_method_31_code 13 = .ok (.getfield 61, 3) := by decide +kernel
theorem d_Mo_prepare_16 : decode prog_8_method_31_code 16 = .ok (.ireturn, 1) := by decide +kernel
theorem d_Mo_prepare_17 : decode prog_8_method_31_code 17 = .ok (.aload_n 0, 1) := by decide +kernel
theorem d_Mo_prepare_18 : decode prog_8_method_31_code 18 = .ok (.aload_n 0, 1) := by decide +kernel
theorem d_Mo_prepare_19 : decode prog_8_method_31_code 19 = .ok (.invokevirtual 155, 3) := by decide +kernel
theorem d_Mo_prepare_22 : decode prog_8_method_31_code 22 = .ok (.ifCond .eq 7, 3) := by decide +kernel
theorem d_Mo_prepare_25 : decode prog_8_method_31_code 25 = .ok (.iconst 0, 1) := by decide +kernel
theorem d_Mo_prepare_26 : decode prog_8_method_31_code 26 = .ok (.goto 4, 3) := by decide +kernel
theorem d_Mo_prepare_29 : decode prog_8_method_31_code 29 = .ok (.iconst 1, 1) := by decide +kernel
theorem d_Mo_prepare_30 : decode prog_8_method_31_code 30 = .ok (.putfield 57, 3) := by decide +kernel
theorem d_Mo_prepare_33 : decode prog_8_method_31_code 33 = .ok (.iconst 0, 1) := by decide +kernel
theorem d_Mo_prepare_34 : decode prog_8_method_31_code 34 = .ok (.istore_n 1, 1) := by decide +kernel
theorem d_Mo_prepare_35 : decode prog_8_method_31_code 35 = .ok (.iload_n 1, 1) := by decide +kernel
theorem d_Mo_prepare_36 : decode prog_8_method_31_code 36 = .ok (.aload_n 0, 1) := by decide +kernel
theorem d_Mo_prepare_37 : decode prog_8_method_31_code 37 = .ok (.getfield 82, 3) := by decide +kernel
theorem d_Mo_prepare_40 : decode prog_8_method_31_code 40 = .ok (.if_icmp .ge 34, 3) := by decide +kernel
theorem d_Mo_prepare_43 : decode prog_8_method_31_code 43 = .ok (.aload_n 0, 1) := by decide +kernel
theorem d_Mo_prepare_44 : decode prog_8_method_31_code 44 = .ok (.getfield 57, 3) := by decide +kernel
theorem d_Mo_prepare_47 : decode prog_8_method_31_code 47 = .ok (.ifCond .ne 27, 3) := by decide +kernel
theorem d_Mo_prepare_50 : decode prog_8_method_31_code 50 = .ok (.aload_n 0, 1) := by decide +kernel
theorem d_Mo_prepare_51 : decode prog_8_method_31_code 51 = .ok (.aload_n 0, 1) := by decide +kernel
theorem d_Mo_prepare_52 : decode prog_8_method_31_code 52 = .ok (.getfield 44, 3) := by decide +kernel
theorem d_Mo_prepare_55 : decode prog_8_method_31_code 55 = .ok (.iload_n 1, 1) := by decide +kernel
theorem d_Mo_prepare_56 : decode prog_8_method_31_code 56 = .ok (.iaload, 1) := by decide +kernel
theorem d_Mo_prepare_57 : decode prog_8_method_31_code 57 = .ok (.invokevirtual 159, 3) := by decide +kernel
theorem d_Mo_prepare_60 : decode prog_8_method_31_code 60 = .ok (.ifCond .ne 8, 3) := by decide +kernel
theorem d_Mo_prepare_63 : decode prog_8_method_31_code 63 = .ok (.aload_n 0, 1) := by decide +kernel
theorem d_Mo_prepare_64 : decode prog_8_method_31_code 64 = .ok (.iconst 2, 1) := by decide +kernel
theorem d_Mo_prepare_65 : decode prog_8_method_31_code 65 = .ok (.putfield 57, 3) := by decide +kernel
theorem d_Mo_prepare_68 : decode prog_8_method_31_code 68 = .ok (.iinc 1 1, 3) := by decide +kernel
theorem d_Mo_prepare_71 : decode prog_8_method_31_code 71 = .ok (.goto (-36), 3) := by decide +kernel
theorem d_Mo_prepare_74 : decode prog_8_method_31_code 74 = .ok (.aload_n 0, 1) := by decide +kernel
theorem d_Mo_prepare_75 : decode prog_8_method_31_code 75 = .ok (.getfield 57, 3) := by decide +kernel
theorem d_Mo_prepare_78 : decode prog_8_method_31_code 78 = .ok (.ifCond .eq 5, 3) := by decide +kernel
theorem d_Mo_prepare_81 : decode prog_8_method_31_code 81 = .ok (.iconst 0, 1) := by decide +kernel
theorem d_Mo_prepare_82 : decode prog_8_method_31_code 82 = .ok (.ireturn, 1) := by decide +kernel
theorem d_Mo_prepare_83 : decode prog_8_method_31_code 83 = .ok (.iconst 0, 1) := by decide +kernel
theorem d_Mo_prepare_84 : decode prog_8_method_31_code 84 = .ok (.istore_n 1, 1) := by decide +kernel
theorem d_Mo_prepare_85 : decode prog_8_method_31_code 85 = .ok (.iconst 0, 1) := by decide +kernel
theorem d_Mo_prepare_86 : decode prog_8_method_31_code 86 = .ok (.istore_n 2, 1) := by decide +kernel
theorem d_Mo_prepare_87 : decode prog_8_method_31_code 87 = .ok (.iload_n 2, 1) := by decide +kernel
theorem d_Mo_prepare_88 : decode prog_8_method_31_code 88 = .ok (.aload_n 0, 1) := by decide +kernel
theorem d_Mo_prepare_89 : decode prog_8_method_31_code 89 = .ok (.getfield 82, 3) := by decide +kernel
theorem d_Mo_prepare_92 : decode prog_8_method_31_code 92 = .ok (.if_icmp .ge 57, 3) := by decide +kernel
theorem d_Mo_prepare_95 : decode prog_8_method_31_code 95 = .ok (.aload_n 0, 1) := by decide +kernel
theorem d_Mo_prepare_96 : decode prog_8_method_31_code 96 = .ok (.getfield 44, 3) := by decide +kernel
theorem d_Mo_prepare_99 : decode prog_8_method_31_code 99 = .ok (.iload_n 2, 1) := by decide +kernel
theorem d_Mo_prepare_100 : decode prog_8_method_31_code 100 = .ok (.iaload, 1) := by decide +kernel
theorem d_Mo_prepare_101 : decode prog_8_method_31_code 101 = .ok (.istore_n 3, 1) := by decide +kernel
theorem d_Mo_prepare_102 : decode prog_8_method_31_code 102 = .ok (.aload_n 0, 1) := by decide +kernel
theorem d_Mo_prepare_103 : decode prog_8_method_31_code 103 = .ok (.iload_n 3, 1) := by decide +kernel
theorem d_Mo_prepare_104 : decode prog_8_method_31_code 104 = .ok (.iload_n 1, 1) := by decide +kernel
theorem d_Mo_prepare_105 : decode prog_8_method_31_code 105 = .ok (.iconst 1, 1) := by decide +kernel
theorem d_Mo_prepare_106 : decode prog_8_method_31_code 106 = .ok (.invokevirtual 85, 3) := by decide +kernel
theorem d_Mo_prepare_109 : decode prog_8_method_31_code 109 = .ok (.ifCond .eq 34, 3) := by decide +kernel
theorem d_Mo_prepare_112 : decode prog_8_method_31_code 112 = .ok (.aload_n 0, 1) := by decide +kernel
theorem d_Mo_prepare_113 : decode prog_8_method_31_code 113 = .ok (.iload_n 3, 1) := by decide +kernel
theorem d_Mo_prepare_114 : decode prog_8_method_31_code 114 = .ok (.invokevirtual 162, 3) := by decide +kernel
theorem d_Mo_prepare_117 : decode prog_8_method_31_code 117 = .ok (.ifCond .ne 26, 3) := by decide +kernel
theorem d_Mo_prepare_120 : decode prog_8_method_31_code 120 = .ok (.aload_n 0, 1) := by decide +kernel
theorem d_Mo_prepare_121 : decode prog_8_method_31_code 121 = .ok (.getfield 41, 3) := by decide +kernel
theorem d_Mo_prepare_124 : decode prog_8_method_31_code 124 = .ok (.iload_n 3, 1) := by decide +kernel
theorem d_Mo_prepare_125 : decode prog_8_method_31_code 125 = .ok (.iconst 1, 1) := by decide +kernel
theorem d_Mo_prepare_126 : decode prog_8_method_31_code 126 = .ok (.iastore, 1) := by decide +kernel
theorem d_Mo_prepare_127 : decode prog_8_method_31_code 127 = .ok (.iload_n 1, 1) := by decide +kernel
theorem d_Mo_prepare_128 : decode prog_8_method_31_code 128 = .ok (.iconst 1, 1) := by decide +kernel
theorem d_Mo_prepare_129 : decode prog_8_method_31_code 129 = .ok (.iload_n 3, 1) := by decide +kernel
theorem d_Mo_prepare_130 : decode prog_8_method_31_code 130 = .ok (.ishl, 1) := by decide +kernel
theorem d_Mo_prepare_131 : decode prog_8_method_31_code 131 = .ok (.ior, 1) := by decide +kernel
theorem d_Mo_prepare_132 : decode prog_8_method_31_code 132 = .ok (.istore_n 1, 1) := by decide +kernel
theorem d_Mo_prepare_133 : decode prog_8_method_31_code 133 = .ok (.aload_n 0, 1) := by decide +kernel
theorem d_Mo_prepare_134 : decode prog_8_method_31_code 134 = .ok (.dup, 1) := by decide +kernel
theorem d_Mo_prepare_135 : decode prog_8_method_31_code 135 = .ok (.getfield 61, 3) := by decide +kernel
theorem d_Mo_prepare_138 : decode prog_8_method_31_code 138 = .ok (.iconst 1, 1) := by decide +kernel
theorem d_Mo_prepare_139 : decode prog_8_method_31_code 139 = .ok (.iadd, 1) := by decide +kernel
theorem d_Mo_prepare_140 : decode prog_8_method_31_code 140 = .ok (.putfield 61, 3) := by decide +kernel
theorem d_Mo_prepare_143 : decode prog_8_method_31_code 143 = .ok (.iinc 2 1, 3) := by decide +kernel
theorem d_Mo_prepare_146 : decode prog_8_method_31_code 146 = .ok (.goto (-59), 3) := by decide +kernel
theorem d_Mo_prepare_149 : decode prog_8_method_31_code 149 = .ok (.aload_n 0, 1) := by decide +kernel
theorem d_Mo_prepare_150 : decode prog_8_method_31_code 150 = .ok (.iconst 1, 1) := by decide +kernel
theorem d_Mo_prepare_151 : decode prog_8_method_31_code 151 = .ok (.putfield 53, 3) := by decide +kernel
theorem d_Mo_prepare_154 : decode prog_8_method_31_code 154 = .ok (.aload_n 0, 1) := by decide +kernel
theorem d_Mo_prepare_155 : decode prog_8_method_31_code 155 = .ok (.getfield 61, 3) := by decide +kernel
theorem d_Mo_prepare_158 : decode prog_8_method_31_code 158 = .ok (.ireturn, 1) := by decide +kernel
theorem d_Mo_ordered_0 : decode prog_8_method_12_code 0 = .ok (.iconst 0, 1) := by decide +kernel
theorem d_Mo_ordered_1 : decode prog_8_method_12_code 1 = .ok (.istore_n 1, 1) := by decide +kernel
theorem d_Mo_ordered_2 : decode prog_8_method_12_code 2 = .ok (.iconst 0, 1) := by decide +kernel
theorem d_Mo_ordered_3 : decode prog_8_method_12_code 3 = .ok (.istore_n 2, 1) := by decide +kernel
theorem d_Mo_ordered_4 : decode prog_8_method_12_code 4 = .ok (.iload_n 2, 1) := by decide +kernel
theorem d_Mo_ordered_5 : decode prog_8_method_12_code 5 = .ok (.aload_n 0, 1) := by decide +kernel
theorem d_Mo_ordered_6 : decode prog_8_method_12_code 6 = .ok (.getfield 82, 3) := by decide +kernel
theorem d_Mo_ordered_9 : decode prog_8_method_12_code 9 = .ok (.if_icmp .ge 72, 3) := by decide +kernel
theorem d_Mo_ordered_12 : decode prog_8_method_12_code 12 = .ok (.iconst (-1), 1) := by decide +kernel
theorem d_Mo_ordered_13 : decode prog_8_method_12_code 13 = .ok (.istore_n 3, 1) := by decide +kernel
theorem d_Mo_ordered_14 : decode prog_8_method_12_code 14 = .ok (.aload_n 0, 1) := by decide +kernel
theorem d_Mo_ordered_15 : decode prog_8_method_12_code 15 = .ok (.getfield 82, 3) := by decide +kernel
theorem d_Mo_ordered_18 : decode prog_8_method_12_code 18 = .ok (.iconst 1, 1) := by decide +kernel
theorem d_Mo_ordered_19 : decode prog_8_method_12_code 19 = .ok (.isub, 1) := by decide +kernel
theorem d_Mo_ordered_20 : decode prog_8_method_12_code 20 = .ok (.istore 4, 2) := by decide +kernel
theorem d_Mo_ordered_22 : decode prog_8_method_12_code 22 = .ok (.iload 4, 2) := by decide +kernel
theorem d_Mo_ordered_24 : decode prog_8_method_12_code 24 = .ok (.ifCond .lt 32, 3) := by decide +kernel
theorem d_Mo_ordered_27 : decode prog_8_method_12_code 27 = .ok (.iload_n 1, 1) := by decide +kernel
theorem d_Mo_ordered_28 : decode prog_8_method_12_code 28 = .ok (.iload 4, 2) := by decide +kernel
theorem d_Mo_ordered_30 : decode prog_8_method_12_code 30 = .ok (.ishr, 1) := by decide +kernel
theorem d_Mo_ordered_31 : decode prog_8_method_12_code 31 = .ok (.iconst 1, 1) := by decide +kernel
theorem d_Mo_ordered_32 : decode prog_8_method_12_code 32 = .ok (.iand, 1) := by decide +kernel
theorem d_Mo_ordered_33 : decode prog_8_method_12_code 33 = .ok (.ifCond .ne 17, 3) := by decide +kernel
theorem d_Mo_ordered_36 : decode prog_8_method_12_code 36 = .ok (.aload_n 0, 1) := by decide +kernel
theorem d_Mo_ordered_37 : decode prog_8_method_12_code 37 = .ok (.iload 4, 2) := by decide +kernel
theorem d_Mo_ordered_39 : decode prog_8_method_12_code 39 = .ok (.iload_n 1, 1) := by decide +kernel
theorem d_Mo_ordered_40 : decode prog_8_method_12_code 40 = .ok (.iconst 0, 1) := by decide +kernel
theorem d_Mo_ordered_41 : decode prog_8_method_12_code 41 = .ok (.invokevirtual 85, 3) := by decide +kernel
theorem d_Mo_ordered_44 : decode prog_8_method_12_code 44 = .ok (.ifCond .eq 6, 3) := by decide +kernel
theorem d_Mo_ordered_47 : decode prog_8_method_12_code 47 = .ok (.iload 4, 2) := by decide +kernel
theorem d_Mo_ordered_49 : decode prog_8_method_12_code 49 = .ok (.istore_n 3, 1) := by decide +kernel
theorem d_Mo_ordered_50 : decode prog_8_method_12_code 50 = .ok (.iinc 4 (-1), 3) := by decide +kernel
theorem d_Mo_ordered_53 : decode prog_8_method_12_code 53 = .ok (.goto (-31), 3) := by decide +kernel
theorem d_Mo_ordered_56 : decode prog_8_method_12_code 56 = .ok (.iload_n 3, 1) := by decide +kernel
theorem d_Mo_ordered_57 : decode prog_8_method_12_code 57 = .ok (.ifCond .ge 5, 3) := by decide +kernel
theorem d_Mo_ordered_60 : decode prog_8_method_12_code 60 = .ok (.iconst 0, 1) := by decide +kernel
theorem d_Mo_ordered_61 : decode prog_8_method_12_code 61 = .ok (.ireturn, 1) := by decide +kernel
theorem d_Mo_ordered_62 : decode prog_8_method_12_code 62 = .ok (.aload_n 0, 1) := by decide +kernel
theorem d_Mo_ordered_63 : decode prog_8_method_12_code 63 = .ok (.getfield 44, 3) := by decide +kernel
theorem d_Mo_ordered_66 : decode prog_8_method_12_code 66 = .ok (.iload_n 2, 1) := by decide +kernel
theorem d_Mo_ordered_67 : decode prog_8_method_12_code 67 = .ok (.iload_n 3, 1) := by decide +kernel
theorem d_Mo_ordered_68 : decode prog_8_method_12_code 68 = .ok (.iastore, 1) := by decide +kernel
theorem d_Mo_ordered_69 : decode prog_8_method_12_code 69 = .ok (.iload_n 1, 1) := by decide +kernel
theorem d_Mo_ordered_70 : decode prog_8_method_12_code 70 = .ok (.iconst 1, 1) := by decide +kernel
theorem d_Mo_ordered_71 : decode prog_8_method_12_code 71 = .ok (.iload_n 3, 1) := by decide +kernel
theorem d_Mo_ordered_72 : decode prog_8_method_12_code 72 = .ok (.ishl, 1) := by decide +kernel
theorem d_Mo_ordered_73 : decode prog_8_method_12_code 73 = .ok (.ior, 1) := by decide +kernel
theorem d_Mo_ordered_74 : decode prog_8_method_12_code 74 = .ok (.istore_n 1, 1) := by decide +kernel
theorem d_Mo_ordered_75 : decode prog_8_method_12_code 75 = .ok (.iinc 2 1, 3) := by decide +kernel
theorem d_Mo_ordered_78 : decode prog_8_method_12_code 78 = .ok (.goto (-74), 3) := by decide +kernel
theorem d_Mo_ordered_81 : decode prog_8_method_12_code 81 = .ok (.iconst 1, 1) := by decide +kernel
theorem d_Mo_ordered_82 : decode prog_8_method_12_code 82 = .ok (.ireturn, 1) := by decide +kernel
theorem d_Mo_there_0 : decode prog_8_method_11_code 0 = .ok (.iconst 0, 1) := by decide +kernel
theorem d_Mo_there_1 : decode prog_8_method_11_code 1 = .ok (.istore 4, 2) := by decide +kernel
theorem d_Mo_there_3 : decode prog_8_method_11_code 3 = .ok (.iload 4, 2) := by decide +kernel
theorem d_Mo_there_5 : decode prog_8_method_11_code 5 = .ok (.aload_n 0, 1) := by decide +kernel
theorem d_Mo_there_6 : decode prog_8_method_11_code 6 = .ok (.aload_n 0, 1) := by decide +kernel
theorem d_Mo_there_7 : decode prog_8_method_11_code 7 = .ok (.getfield 29, 3) := by decide +kernel
theorem d_Mo_there_10 : decode prog_8_method_11_code 10 = .ok (.iload_n 1, 1) := by decide +kernel
theorem d_Mo_there_11 : decode prog_8_method_11_code 11 = .ok (.iaload, 1) := by decide +kernel
theorem d_Mo_there_12 : decode prog_8_method_11_code 12 = .ok (.invokevirtual 78, 3) := by decide +kernel
theorem d_Mo_there_15 : decode prog_8_method_11_code 15 = .ok (.if_icmp .ge 74, 3) := by decide +kernel
theorem d_Mo_there_18 : decode prog_8_method_11_code 18 = .ok (.aload_n 0, 1) := by decide +kernel
theorem d_Mo_there_19 : decode prog_8_method_11_code 19 = .ok (.getfield 47, 3) := by decide +kernel
theorem d_Mo_there_22 : decode prog_8_method_11_code 22 = .ok (.iload_n 1, 1) := by decide +kernel
theorem d_Mo_there_23 : decode prog_8_method_11_code 23 = .ok (.iconst 3, 1) := by decide +kernel
theorem d_Mo_there_24 : decode prog_8_method_11_code 24 = .ok (.imul, 1) := by decide +kernel
theorem d_Mo_there_25 : decode prog_8_method_11_code 25 = .ok (.iload 4, 2) := by decide +kernel
theorem d_Mo_there_27 : decode prog_8_method_11_code 27 = .ok (.iadd, 1) := by decide +kernel
theorem d_Mo_there_28 : decode prog_8_method_11_code 28 = .ok (.iaload, 1) := by decide +kernel
theorem d_Mo_there_29 : decode prog_8_method_11_code 29 = .ok (.istore 5, 2) := by decide +kernel
theorem d_Mo_there_31 : decode prog_8_method_11_code 31 = .ok (.aload_n 0, 1) := by decide +kernel
theorem d_Mo_there_32 : decode prog_8_method_11_code 32 = .ok (.getfield 7, 3) := by decide +kernel
theorem d_Mo_there_35 : decode prog_8_method_11_code 35 = .ok (.iload 5, 2) := by decide +kernel
theorem d_Mo_there_37 : decode prog_8_method_11_code 37 = .ok (.iaload, 1) := by decide +kernel
theorem d_Mo_there_38 : decode prog_8_method_11_code 38 = .ok (.ifCond .eq 43, 3) := by decide +kernel
theorem d_Mo_there_41 : decode prog_8_method_11_code 41 = .ok (.aload_n 0, 1) := by decide +kernel
theorem d_Mo_there_42 : decode prog_8_method_11_code 42 = .ok (.getfield 7, 3) := by decide +kernel
theorem d_Mo_there_45 : decode prog_8_method_11_code 45 = .ok (.iload 5, 2) := by decide +kernel
theorem d_Mo_there_47 : decode prog_8_method_11_code 47 = .ok (.iaload, 1) := by decide +kernel
theorem d_Mo_there_48 : decode prog_8_method_11_code 48 = .ok (.iconst 1, 1) := by decide +kernel
theorem d_Mo_there_49 : decode prog_8_method_11_code 49 = .ok (.if_icmp .ne 7, 3) := by decide +kernel
theorem d_Mo_there_52 : decode prog_8_method_11_code 52 = .ok (.iload_n 3, 1) := by decide +kernel
theorem d_Mo_there_53 : decode prog_8_method_11_code 53 = .ok (.ifCond .ne 28, 3) := by decide +kernel
theorem d_Mo_there_56 : decode prog_8_method_11_code 56 = .ok (.aload_n 0, 1) := by decide +kernel
theorem d_Mo_there_57 : decode prog_8_method_11_code 57 = .ok (.getfield 7, 3) := by decide +kernel
theorem d_Mo_there_60 : decode prog_8_method_11_code 60 = .ok (.iload 5, 2) := by decide +kernel
theorem d_Mo_there_62 : decode prog_8_method_11_code 62 = .ok (.iaload, 1) := by decide +kernel
theorem d_Mo_there_63 : decode prog_8_method_11_code 63 = .ok (.iconst 3, 1) := by decide +kernel
theorem d_Mo_there_64 : decode prog_8_method_11_code 64 = .ok (.if_icmp .ne 19, 3) := by decide +kernel
theorem d_Mo_there_67 : decode prog_8_method_11_code 67 = .ok (.iload_n 2, 1) := by decide +kernel
theorem d_Mo_there_68 : decode prog_8_method_11_code 68 = .ok (.aload_n 0, 1) := by decide +kernel
theorem d_Mo_there_69 : decode prog_8_method_11_code 69 = .ok (.getfield 22, 3) := by decide +kernel
theorem d_Mo_there_72 : decode prog_8_method_11_code 72 = .ok (.iload 5, 2) := by decide +kernel
theorem d_Mo_there_74 : decode prog_8_method_11_code 74 = .ok (.iaload, 1) := by decide +kernel
theorem d_Mo_there_75 : decode prog_8_method_11_code 75 = .ok (.ishr, 1) := by decide +kernel
theorem d_Mo_there_76 : decode prog_8_method_11_code 76 = .ok (.iconst 1, 1) := by decide +kernel
theorem d_Mo_there_77 : decode prog_8_method_11_code 77 = .ok (.iand, 1) := by decide +kernel
theorem d_Mo_there_78 : decode prog_8_method_11_code 78 = .ok (.ifCond .ne 5, 3) := by decide +kernel
theorem d_Mo_there_81 : decode prog_8_method_11_code 81 = .ok (.iconst 0, 1) := by decide +kernel
theorem d_Mo_there_82 : decode prog_8_method_11_code 82 = .ok (.ireturn, 1) := by decide +kernel
theorem d_Mo_there_83 : decode prog_8_method_11_code 83 = .ok (.iinc 4 1, 3) := by decide +kernel
theorem d_Mo_there_86 : decode prog_8_method_11_code 86 = .ok (.goto (-83), 3) := by decide +kernel
theorem d_Mo_there_89 : decode prog_8_method_11_code 89 = .ok (.iconst 1, 1) := by decide +kernel
theorem d_Mo_there_90 : decode prog_8_method_11_code 90 = .ok (.ireturn, 1) := by decide +kernel
theorem d_Mo_shape_0 : decode prog_8_method_17_code 0 = .ok (.aload_n 0, 1) := by decide +kernel
theorem d_Mo_shape_1 : decode prog_8_method_17_code 1 = .ok (.getfield 29, 3) := by decide +kernel
theorem d_Mo_shape_4 : decode prog_8_method_17_code 4 = .ok (.iload_n 1, 1) := by decide +kernel
theorem d_Mo_shape_5 : decode prog_8_method_17_code 5 = .ok (.iaload, 1) := by decide +kernel
theorem d_Mo_shape_6 : decode prog_8_method_17_code 6 = .ok (.istore_n 2, 1) := by decide +kernel
theorem d_Mo_shape_7 : decode prog_8_method_17_code 7 = .ok (.aload_n 0, 1) := by decide +kernel
theorem d_Mo_shape_8 : decode prog_8_method_17_code 8 = .ok (.getfield 47, 3) := by decide +kernel
theorem d_Mo_shape_11 : decode prog_8_method_17_code 11 = .ok (.iload_n 1, 1) := by decide +kernel
theorem d_Mo_shape_12 : decode prog_8_method_17_code 12 = .ok (.iconst 3, 1) := by decide +kernel
theorem d_Mo_shape_13 : decode prog_8_method_17_code 13 = .ok (.imul, 1) := by decide +kernel
theorem d_Mo_shape_14 : decode prog_8_method_17_code 14 = .ok (.iaload, 1) := by decide +kernel
theorem d_Mo_shape_15 : decode prog_8_method_17_code 15 = .ok (.istore_n 3, 1) := by decide +kernel
theorem d_Mo_shape_16 : decode prog_8_method_17_code 16 = .ok (.aload_n 0, 1) := by decide +kernel
theorem d_Mo_shape_17 : decode prog_8_method_17_code 17 = .ok (.iload_n 2, 1) := by decide +kernel
theorem d_Mo_shape_18 : decode prog_8_method_17_code 18 = .ok (.invokevirtual 78, 3) := by decide +kernel
theorem d_Mo_shape_21 : decode prog_8_method_17_code 21 = .ok (.iconst 1, 1) := by decide +kernel
theorem d_Mo_shape_22 : decode prog_8_method_17_code 22 = .ok (.if_icmp .le 16, 3) := by decide +kernel
theorem d_Mo_shape_25 : decode prog_8_method_17_code 25 = .ok (.aload_n 0, 1) := by decide +kernel
theorem d_Mo_shape_26 : decode prog_8_method_17_code 26 = .ok (.getfield 47, 3) := by decide +kernel
theorem d_Mo_shape_29 : decode prog_8_method_17_code 29 = .ok (.iload_n 1, 1) := by decide +kernel
theorem d_Mo_shape_30 : decode prog_8_method_17_code 30 = .ok (.iconst 3, 1) := by decide +kernel
theorem d_Mo_shape_31 : decode prog_8_method_17_code 31 = .ok (.imul, 1) := by decide +kernel
theorem d_Mo_shape_32 : decode prog_8_method_17_code 32 = .ok (.iconst 1, 1) := by decide +kernel
theorem d_Mo_shape_33 : decode prog_8_method_17_code 33 = .ok (.iadd, 1) := by decide +kernel
theorem d_Mo_shape_34 : decode prog_8_method_17_code 34 = .ok (.iaload, 1) := by decide +kernel
theorem d_Mo_shape_35 : decode prog_8_method_17_code 35 = .ok (.goto 4, 3) := by decide +kernel
theorem d_Mo_shape_38 : decode prog_8_method_17_code 38 = .ok (.iload_n 3, 1) := by decide +kernel
theorem d_Mo_shape_39 : decode prog_8_method_17_code 39 = .ok (.istore 4, 2) := by decide +kernel
theorem d_Mo_shape_41 : decode prog_8_method_17_code 41 = .ok (.aload_n 0, 1) := by decide +kernel
theorem d_Mo_shape_42 : decode prog_8_method_17_code 42 = .ok (.iload_n 2, 1) := by decide +kernel
theorem d_Mo_shape_43 : decode prog_8_method_17_code 43 = .ok (.invokevirtual 78, 3) := by decide +kernel
theorem d_Mo_shape_46 : decode prog_8_method_17_code 46 = .ok (.iconst 2, 1) := by decide +kernel
theorem d_Mo_shape_47 : decode prog_8_method_17_code 47 = .ok (.if_icmp .le 16, 3) := by decide +kernel
theorem d_Mo_shape_50 : decode prog_8_method_17_code 50 = .ok (.aload_n 0, 1) := by decide +kernel
theorem d_Mo_shape_51 : decode prog_8_method_17_code 51 = .ok (.getfield 47, 3) := by decide +kernel
theorem d_Mo_shape_54 : decode prog_8_method_17_code 54 = .ok (.iload_n 1, 1) := by decide +kernel
theorem d_Mo_shape_55 : decode prog_8_method_17_code 55 = .ok (.iconst 3, 1) := by decide +kernel
theorem d_Mo_shape_56 : decode prog_8_method_17_code 56 = .ok (.imul, 1) := by decide +kernel
theorem d_Mo_shape_57 : decode prog_8_method_17_code 57 = .ok (.iconst 2, 1) := by decide +kernel
theorem d_Mo_shape_58 : decode prog_8_method_17_code 58 = .ok (.iadd, 1) := by decide +kernel
theorem d_Mo_shape_59 : decode prog_8_method_17_code 59 = .ok (.iaload, 1) := by decide +kernel
theorem d_Mo_shape_60 : decode prog_8_method_17_code 60 = .ok (.goto 4, 3) := by decide +kernel
theorem d_Mo_shape_63 : decode prog_8_method_17_code 63 = .ok (.iload_n 3, 1) := by decide +kernel
theorem d_Mo_shape_64 : decode prog_8_method_17_code 64 = .ok (.istore 5, 2) := by decide +kernel
theorem d_Mo_shape_66 : decode prog_8_method_17_code 66 = .ok (.aload_n 0, 1) := by decide +kernel
theorem d_Mo_shape_67 : decode prog_8_method_17_code 67 = .ok (.getfield 13, 3) := by decide +kernel
theorem d_Mo_shape_70 : decode prog_8_method_17_code 70 = .ok (.iload_n 3, 1) := by decide +kernel
theorem d_Mo_shape_71 : decode prog_8_method_17_code 71 = .ok (.iaload, 1) := by decide +kernel
theorem d_Mo_shape_72 : decode prog_8_method_17_code 72 = .ok (.aload_n 0, 1) := by decide +kernel
theorem d_Mo_shape_73 : decode prog_8_method_17_code 73 = .ok (.getfield 13, 3) := by decide +kernel
theorem d_Mo_shape_76 : decode prog_8_method_17_code 76 = .ok (.iload 4, 2) := by decide +kernel
theorem d_Mo_shape_78 : decode prog_8_method_17_code 78 = .ok (.iaload, 1) := by decide +kernel
theorem d_Mo_shape_79 : decode prog_8_method_17_code 79 = .ok (.if_icmp .ne 7, 3) := by decide +kernel
theorem d_Mo_shape_82 : decode prog_8_method_17_code 82 = .ok (.iconst 1, 1) := by decide +kernel
theorem d_Mo_shape_83 : decode prog_8_method_17_code 83 = .ok (.goto 4, 3) := by decide +kernel
theorem d_Mo_shape_86 : decode prog_8_method_17_code 86 = .ok (.iconst 0, 1) := by decide +kernel
theorem d_Mo_shape_87 : decode prog_8_method_17_code 87 = .ok (.istore 6, 2) := by decide +kernel
theorem d_Mo_shape_89 : decode prog_8_method_17_code 89 = .ok (.aload_n 0, 1) := by decide +kernel
theorem d_Mo_shape_90 : decode prog_8_method_17_code 90 = .ok (.getfield 13, 3) := by decide +kernel
theorem d_Mo_shape_93 : decode prog_8_method_17_code 93 = .ok (.iload_n 3, 1) := by decide +kernel
theorem d_Mo_shape_94 : decode prog_8_method_17_code 94 = .ok (.iaload, 1) := by decide +kernel
theorem d_Mo_shape_95 : decode prog_8_method_17_code 95 = .ok (.ifCond .ne 17, 3) := by decide +kernel
theorem d_Mo_shape_98 : decode prog_8_method_17_code 98 = .ok (.aload_n 0, 1) := by decide +kernel
theorem d_Mo_shape_99 : decode prog_8_method_17_code 99 = .ok (.getfield 13, 3) := by decide +kernel
theorem d_Mo_shape_102 : decode prog_8_method_17_code 102 = .ok (.iload 4, 2) := by decide +kernel
theorem d_Mo_shape_104 : decode prog_8_method_17_code 104 = .ok (.iaload, 1) := by decide +kernel
theorem d_Mo_shape_105 : decode prog_8_method_17_code 105 = .ok (.ifCond .ne 7, 3) := by decide +kernel
theorem d_Mo_shape_108 : decode prog_8_method_17_code 108 = .ok (.iconst 1, 1) := by decide +kernel
theorem d_Mo_shape_109 : decode prog_8_method_17_code 109 = .ok (.goto 4, 3) := by decide +kernel
theorem d_Mo_shape_112 : decode prog_8_method_17_code 112 = .ok (.iconst 0, 1) := by decide +kernel
theorem d_Mo_shape_113 : decode prog_8_method_17_code 113 = .ok (.istore 7, 2) := by decide +kernel
theorem d_Mo_shape_115 : decode prog_8_method_17_code 115 = .ok (.aload_n 0, 1) := by decide +kernel
theorem d_Mo_shape_116 : decode prog_8_method_17_code 116 = .ok (.getfield 16, 3) := by decide +kernel
theorem d_Mo_shape_119 : decode prog_8_method_17_code 119 = .ok (.iload_n 3, 1) := by decide +kernel
theorem d_Mo_shape_120 : decode prog_8_method_17_code 120 = .ok (.iaload, 1) := by decide +kernel
theorem d_Mo_shape_121 : decode prog_8_method_17_code 121 = .ok (.istore 8, 2) := by decide +kernel
theorem d_Mo_shape_123 : decode prog_8_method_17_code 123 = .ok (.aload_n 0, 1) := by decide +kernel
theorem d_Mo_shape_124 : decode prog_8_method_17_code 124 = .ok (.getfield 19, 3) := by decide +kernel
theorem d_Mo_shape_127 : decode prog_8_method_17_code 127 = .ok (.iload_n 3, 1) := by decide +kernel
theorem d_Mo_shape_128 : decode prog_8_method_17_code 128 = .ok (.iaload, 1) := by decide +kernel
theorem d_Mo_shape_129 : decode prog_8_method_17_code 129 = .ok (.istore 9, 2) := by decide +kernel
theorem d_Mo_shape_131 : decode prog_8_method_17_code 131 = .ok (.iload_n 2, 1) := by decide +kernel
theorem d_Mo_shape_132 : decode prog_8_method_17_code 132 = .ok (.iconst 4, 1) := by decide +kernel
theorem d_Mo_shape_133 : decode prog_8_method_17_code 133 = .ok (.if_icmp .lt 9, 3) := by decide +kernel
theorem d_Mo_shape_136 : decode prog_8_method_17_code 136 = .ok (.iload_n 2, 1) := by decide +kernel
theorem d_Mo_shape_137 : decode prog_8_method_17_code 137 = .ok (.bipush 8, 2) := by decide +kernel
theorem d_Mo_shape_139 : decode prog_8_method_17_code 139 = .ok (.if_icmp .ne 74, 3) := by decide +kernel
theorem d_Mo_shape_142 : decode prog_8_method_17_code 142 = .ok (.iload 6, 2) := by decide +kernel
theorem d_Mo_shape_144 : decode prog_8_method_17_code 144 = .ok (.ifCond .eq 67, 3) := by decide +kernel
theorem d_Mo_shape_147 : decode prog_8_method_17_code 147 = .ok (.aload_n 0, 1) := by decide +kernel
theorem d_Mo_shape_148 : decode prog_8_method_17_code 148 = .ok (.iload_n 3, 1) := by decide +kernel
theorem d_Mo_shape_149 : decode prog_8_method_17_code 149 = .ok (.iload 4, 2) := by decide +kernel
theorem d_Mo_shape_151 : decode prog_8_method_17_code 151 = .ok (.invokevirtual 93, 3) := by decide +kernel
theorem d_Mo_shape_154 : decode prog_8_method_17_code 154 = .ok (.ifCond .eq 57, 3) := by decide +kernel
theorem d_Mo_shape_157 : decode prog_8_method_17_code 157 = .ok (.aload_n 0, 1) := by decide +kernel
theorem d_Mo_shape_158 : decode prog_8_method_17_code 158 = .ok (.iload_n 1, 1) := by decide +kernel
theorem d_Mo_shape_159 : decode prog_8_method_17_code 159 = .ok (.iload_n 2, 1) := by decide +kernel
theorem d_Mo_shape_160 : decode prog_8_method_17_code 160 = .ok (.bipush 8, 2) := by decide +kernel
theorem d_Mo_shape_162 : decode prog_8_method_17_code 162 = .ok (.if_icmp .ne 7, 3) := by decide +kernel
theorem d_Mo_shape_165 : decode prog_8_method_17_code 165 = .ok (.iconst 1, 1) := by decide +kernel
theorem d_Mo_shape_166 : decode prog_8_method_17_code 166 = .ok (.goto 9, 3) := by decide +kernel
theorem d_Mo_shape_169 : decode prog_8_method_17_code 169 = .ok (.aload_n 0, 1) := by decide +kernel
theorem d_Mo_shape_170 : decode prog_8_method_17_code 170 = .ok (.getfield 13, 3) := by decide +kernel
theorem d_Mo_shape_173 : decode prog_8_method_17_code 173 = .ok (.iload_n 3, 1) := by decide +kernel
theorem d_Mo_shape_174 : decode prog_8_method_17_code 174 = .ok (.iaload, 1) := by decide +kernel
theorem d_Mo_shape_175 : decode prog_8_method_17_code 175 = .ok (.aload_n 0, 1) := by decide +kernel
theorem d_Mo_shape_176 : decode prog_8_method_17_code 176 = .ok (.iload 8, 2) := by decide +kernel
theorem d_Mo_shape_178 : decode prog_8_method_17_code 178 = .ok (.aload_n 0, 1) := by decide +kernel
theorem d_Mo_shape_179 : decode prog_8_method_17_code 179 = .ok (.getfield 16, 3) := by decide +kernel
theorem d_Mo_shape_182 : decode prog_8_method_17_code 182 = .ok (.iload 4, 2) := by decide +kernel
theorem d_Mo_shape_184 : decode prog_8_method_17_code 184 = .ok (.iaload, 1) := by decide +kernel
theorem d_Mo_shape_185 : decode prog_8_method_17_code 185 = .ok (.invokevirtual 96, 3) := by decide +kernel
theorem d_Mo_shape_188 : decode prog_8_method_17_code 188 = .ok (.aload_n 0, 1) := by decide +kernel
theorem d_Mo_shape_189 : decode prog_8_method_17_code 189 = .ok (.iload 9, 2) := by decide +kernel
theorem d_Mo_shape_191 : decode prog_8_method_17_code 191 = .ok (.aload_n 0, 1) := by decide +kernel
theorem d_Mo_shape_192 : decode prog_8_method_17_code 192 = .ok (.getfield 19, 3) := by decide +kernel
theorem d_Mo_shape_195 : decode prog_8_method_17_code 195 = .ok (.iload 4, 2) := by decide +kernel
theorem d_Mo_shape_197 : decode prog_8_method_17_code 197 = .ok (.iaload, 1) := by decide +kernel
theorem d_Mo_shape_198 : decode prog_8_method_17_code 198 = .ok (.invokevirtual 96, 3) := by decide +kernel
theorem d_Mo_shape_201 : decode prog_8_method_17_code 201 = .ok (.invokevirtual 100, 3) := by decide +kernel
theorem d_Mo_shape_204 : decode prog_8_method_17_code 204 = .ok (.ifCond .eq 7, 3) := by decide +kernel
theorem d_Mo_shape_207 : decode prog_8_method_17_code 207 = .ok (.iconst 1, 1) := by decide +kernel
theorem d_Mo_shape_208 : decode prog_8_method_17_code 208 = .ok (.goto 4, 3) := by decide +kernel
theorem d_Mo_shape_211 : decode prog_8_method_17_code 211 = .ok (.iconst 0, 1) := by decide +kernel
theorem d_Mo_shape_212 : decode prog_8_method_17_code 212 = .ok (.ireturn, 1) := by decide +kernel
theorem d_Mo_shape_213 : decode prog_8_method_17_code 213 = .ok (.iload_n 2, 1) := by decide +kernel
theorem d_Mo_shape_214 : decode prog_8_method_17_code 214 = .ok (.iconst 4, 1) := by decide +kernel
theorem d_Mo_shape_215 : decode prog_8_method_17_code 215 = .ok (.if_icmp .ne 44, 3) := by decide +kernel
theorem d_Mo_shape_218 : decode prog_8_method_17_code 218 = .ok (.iload 7, 2) := by decide +kernel
theorem d_Mo_shape_220 : decode prog_8_method_17_code 220 = .ok (.ifCond .eq 37, 3) := by decide +kernel
theorem d_Mo_shape_223 : decode prog_8_method_17_code 223 = .ok (.iload 9, 2) := by decide +kernel
theorem d_Mo_shape_225 : decode prog_8_method_17_code 225 = .ok (.aload_n 0, 1) := by decide +kernel
theorem d_Mo_shape_226 : decode prog_8_method_17_code 226 = .ok (.getfield 16, 3) := by decide +kernel
theorem d_Mo_shape_229 : decode prog_8_method_17_code 229 = .ok (.iload 4, 2) := by decide +kernel
theorem d_Mo_shape_231 : decode prog_8_method_17_code 231 = .ok (.iaload, 1) := by decide +kernel
theorem d_Mo_shape_232 : decode prog_8_method_17_code 232 = .ok (.if_icmp .ne 25, 3) := by decide +kernel
theorem d_Mo_shape_235 : decode prog_8_method_17_code 235 = .ok (.aload_n 0, 1) := by decide +kernel
theorem d_Mo_shape_236 : decode prog_8_method_17_code 236 = .ok (.iload_n 1, 1) := by decide +kernel
theorem d_Mo_shape_237 : decode prog_8_method_17_code 237 = .ok (.iconst 0, 1) := by decide +kernel
theorem d_Mo_shape_238 : decode prog_8_method_17_code 238 = .ok (.iload 8, 2) := by decide +kernel
theorem d_Mo_shape_240 : decode prog_8_method_17_code 240 = .ok (.aload_n 0, 1) := by decide +kernel
theorem d_Mo_shape_241 : decode prog_8_method_17_code 241 = .ok (.getfield 19, 3) := by decide +kernel
theorem d_Mo_shape_244 : decode prog_8_method_17_code 244 = .ok (.iload 4, 2) := by decide +kernel
theorem d_Mo_shape_246 : decode prog_8_method_17_code 246 = .ok (.iaload, 1) := by decide +kernel
theorem d_Mo_shape_247 : decode prog_8_method_17_code 247 = .ok (.invokevirtual 100, 3) := by decide +kernel
theorem d_Mo_shape_250 : decode prog_8_method_17_code 250 = .ok (.ifCond .eq 7, 3) := by decide +kernel
theorem d_Mo_shape_253 : decode prog_8_method_17_code 253 = .ok (.iconst 1, 1) := by decide +kernel
theorem d_Mo_shape_254 : decode prog_8_method_17_code 254 = .ok (.goto 4, 3) := by decide +kernel
theorem d_Mo_shape_257 : decode prog_8_method_17_code 257 = .ok (.iconst 0, 1) := by decide +kernel
theorem d_Mo_shape_258 : decode prog_8_method_17_code 258 = .ok (.ireturn, 1) := by decide +kernel
theorem d_Mo_shape_259 : decode prog_8_method_17_code 259 = .ok (.iload_n 2, 1) := by decide +kernel
theorem d_Mo_shape_260 : decode prog_8_method_17_code 260 = .ok (.iconst 5, 1) := by decide +kernel
theorem d_Mo_shape_261 : decode prog_8_method_17_code 261 = .ok (.if_icmp .eq 9, 3) := by decide +kernel
theorem d_Mo_shape_264 : decode prog_8_method_17_code 264 = .ok (.iload_n 2, 1) := by decide +kernel
theorem d_Mo_shape_265 : decode prog_8_method_17_code 265 = .ok (.bipush 18, 2) := by decide +kernel
theorem d_Mo_shape_267 : decode prog_8_method_17_code 267 = .ok (.if_icmp .ne 27, 3) := by decide +kernel
theorem d_Mo_shape_270 : decode prog_8_method_17_code 270 = .ok (.iload 7, 2) := by decide +kernel
theorem d_Mo_shape_272 : decode prog_8_method_17_code 272 = .ok (.ifCond .eq 20, 3) := by decide +kernel
theorem d_Mo_shape_275 : decode prog_8_method_17_code 275 = .ok (.aload_n 0, 1) := by decide +kernel
theorem d_Mo_shape_276 : decode prog_8_method_17_code 276 = .ok (.iload_n 1, 1) := by decide +kernel
theorem d_Mo_shape_277 : decode prog_8_method_17_code 277 = .ok (.iconst 0, 1) := by decide +kernel
theorem d_Mo_shape_278 : decode prog_8_method_17_code 278 = .ok (.iload 8, 2) := by decide +kernel
theorem d_Mo_shape_280 : decode prog_8_method_17_code 280 = .ok (.iload 9, 2) := by decide +kernel
theorem d_Mo_shape_282 : decode prog_8_method_17_code 282 = .ok (.invokevirtual 100, 3) := by decide +kernel
theorem d_Mo_shape_285 : decode prog_8_method_17_code 285 = .ok (.ifCond .eq 7, 3) := by decide +kernel
theorem d_Mo_shape_288 : decode prog_8_method_17_code 288 = .ok (.iconst 1, 1) := by decide +kernel
theorem d_Mo_shape_289 : decode prog_8_method_17_code 289 = .ok (.goto 4, 3) := by decide +kernel
theorem d_Mo_shape_292 : decode prog_8_method_17_code 292 = .ok (.iconst 0, 1) := by decide +kernel
theorem d_Mo_shape_293 : decode prog_8_method_17_code 293 = .ok (.ireturn, 1) := by decide +kernel
theorem d_Mo_shape_294 : decode prog_8_method_17_code 294 = .ok (.iload_n 2, 1) := by decide +kernel
theorem d_Mo_shape_295 : decode prog_8_method_17_code 295 = .ok (.bipush 6, 2) := by decide +kernel
theorem d_Mo_shape_297 : decode prog_8_method_17_code 297 = .ok (.if_icmp .ne 19, 3) := by decide +kernel
theorem d_Mo_shape_300 : decode prog_8_method_17_code 300 = .ok (.aload_n 0, 1) := by decide +kernel
theorem d_Mo_shape_301 : decode prog_8_method_17_code 301 = .ok (.iload_n 1, 1) := by decide +kernel
theorem d_Mo_shape_302 : decode prog_8_method_17_code 302 = .ok (.aload_n 0, 1) := by decide +kernel
theorem d_Mo_shape_303 : decode prog_8_method_17_code 303 = .ok (.getfield 13, 3) := by decide +kernel
theorem d_Mo_shape_306 : decode prog_8_method_17_code 306 = .ok (.iload_n 3, 1) := by decide +kernel
theorem d_Mo_shape_307 : decode prog_8_method_17_code 307 = .ok (.iaload, 1) := by decide +kernel
