theorem dX11_goesAlong_112 : decode cX11_goesAlong 112 = .ok (.getfield 431, 3) := by decide +kernel
theorem dX11_goesAlong_115 : decode cX11_goesAlong 115 = .ok (.ifCond .eq 14, 3) := by decide +kernel
theorem dX11_goesAlong_118 : decode cX11_goesAlong 118 = .ok (.aload_n 0, 1) := by decide +kernel
theorem dX11_goesAlong_119 : decode cX11_goesAlong 119 = .ok (.getfield 259, 3) := by decide +kernel
theorem dX11_goesAlong_122 : decode cX11_goesAlong 122 = .ok (.ifCond .ne 7, 3) := by decide +kernel
theorem dX11_goesAlong_125 : decode cX11_goesAlong 125 = .ok (.iconst 1, 1) := by decide +kernel
theorem dX11_goesAlong_126 : decode cX11_goesAlong 126 = .ok (.goto 4, 3) := by decide +kernel
theorem dX11_goesAlong_129 : decode cX11_goesAlong 129 = .ok (.iconst 0, 1) := by decide +kernel
theorem dX11_goesAlong_130 : decode cX11_goesAlong 130 = .ok (.putfield 431, 3) := by decide +kernel
theorem dX11_goesAlong_133 : decode cX11_goesAlong 133 = .ok (.iinc 4 1, 3) := by decide +kernel
theorem dX11_goesAlong_136 : decode cX11_goesAlong 136 = .ok (.goto (-64), 3) := by decide +kernel
theorem dX11_goesAlong_139 : decode cX11_goesAlong 139 = .ok (.aload_n 0, 1) := by decide +kernel
theorem dX11_goesAlong_140 : decode cX11_goesAlong 140 = .ok (.iconst 1, 1) := by decide +kernel
theorem dX11_goesAlong_141 : decode cX11_goesAlong 141 = .ok (.putfield 434, 3) := by decide +kernel
theorem dX11_goesAlong_144 : decode cX11_goesAlong 144 = .ok (.aload_n 0, 1) := by decide +kernel
theorem dX11_goesAlong_145 : decode cX11_goesAlong 145 = .ok (.bipush 27, 2) := by decide +kernel
theorem dX11_goesAlong_147 : decode cX11_goesAlong 147 = .ok (.invokevirtual 273, 3) := by decide +kernel
theorem dX11_goesAlong_150 : decode cX11_goesAlong 150 = .ok (.ifCond .eq 30, 3) := by decide +kernel
theorem dX11_goesAlong_153 : decode cX11_goesAlong 153 = .ok (.aload_n 0, 1) := by decide +kernel
theorem dX11_goesAlong_154 : decode cX11_goesAlong 154 = .ok (.aload_n 0, 1) := by decide +kernel
theorem dX11_goesAlong_155 : decode cX11_goesAlong 155 = .ok (.getfield 24, 3) := by decide +kernel
theorem dX11_goesAlong_158 : decode cX11_goesAlong 158 = .ok (.sipush 2887, 3) := by decide +kernel
theorem dX11_goesAlong_161 : decode cX11_goesAlong 161 = .ok (.aload_n 0, 1) := by decide +kernel
theorem dX11_goesAlong_162 : decode cX11_goesAlong 162 = .ok (.getfield 249, 3) := by decide +kernel
theorem dX11_goesAlong_165 : decode cX11_goesAlong 165 = .ok (.iadd, 1) := by decide +kernel
theorem dX11_goesAlong_166 : decode cX11_goesAlong 166 = .ok (.iaload, 1) := by decide +kernel
theorem dX11_goesAlong_167 : decode cX11_goesAlong 167 = .ok (.putfield 434, 3) := by decide +kernel
theorem dX11_goesAlong_170 : decode cX11_goesAlong 170 = .ok (.aload_n 0, 1) := by decide +kernel
theorem dX11_goesAlong_171 : decode cX11_goesAlong 171 = .ok (.dup, 1) := by decide +kernel
theorem dX11_goesAlong_172 : decode cX11_goesAlong 172 = .ok (.getfield 249, 3) := by decide +kernel
theorem dX11_goesAlong_175 : decode cX11_goesAlong 175 = .ok (.iconst 1, 1) := by decide +kernel
theorem dX11_goesAlong_176 : decode cX11_goesAlong 176 = .ok (.iadd, 1) := by decide +kernel
theorem dX11_goesAlong_177 : decode cX11_goesAlong 177 = .ok (.putfield 249, 3) := by decide +kernel
theorem dX11_goesAlong_180 : decode cX11_goesAlong 180 = .ok (.aload_n 0, 1) := by decide +kernel
theorem dX11_goesAlong_181 : decode cX11_goesAlong 181 = .ok (.iconst 0, 1) := by decide +kernel
theorem dX11_goesAlong_182 : decode cX11_goesAlong 182 = .ok (.putfield 259, 3) := by decide +kernel
theorem dX11_goesAlong_185 : decode cX11_goesAlong 185 = .ok (.aload_n 0, 1) := by decide +kernel
theorem dX11_goesAlong_186 : decode cX11_goesAlong 186 = .ok (.aload_n 0, 1) := by decide +kernel
theorem dX11_goesAlong_187 : decode cX11_goesAlong 187 = .ok (.iconst 4, 1) := by decide +kernel
theorem dX11_goesAlong_188 : decode cX11_goesAlong 188 = .ok (.invokevirtual 273, 3) := by decide +kernel
theorem dX11_goesAlong_191 : decode cX11_goesAlong 191 = .ok (.ifCond .eq 11, 3) := by decide +kernel
theorem dX11_goesAlong_194 : decode cX11_goesAlong 194 = .ok (.aload_n 0, 1) := by decide +kernel
theorem dX11_goesAlong_195 : decode cX11_goesAlong 195 = .ok (.iload_n 2, 1) := by decide +kernel
theorem dX11_goesAlong_196 : decode cX11_goesAlong 196 = .ok (.invokevirtual 300, 3) := by decide +kernel
theorem dX11_goesAlong_199 : decode cX11_goesAlong 199 = .ok (.ifCond .eq 7, 3) := by decide +kernel
theorem dX11_goesAlong_202 : decode cX11_goesAlong 202 = .ok (.iconst 1, 1) := by decide +kernel
theorem dX11_goesAlong_203 : decode cX11_goesAlong 203 = .ok (.goto 4, 3) := by decide +kernel
theorem dX11_goesAlong_206 : decode cX11_goesAlong 206 = .ok (.iconst 0, 1) := by decide +kernel
theorem dX11_goesAlong_207 : decode cX11_goesAlong 207 = .ok (.putfield 437, 3) := by decide +kernel
theorem dX11_goesAlong_210 : decode cX11_goesAlong 210 = .ok (.aload_n 0, 1) := by decide +kernel
theorem dX11_goesAlong_211 : decode cX11_goesAlong 211 = .ok (.aload_n 0, 1) := by decide +kernel
theorem dX11_goesAlong_212 : decode cX11_goesAlong 212 = .ok (.getfield 437, 3) := by decide +kernel
theorem dX11_goesAlong_215 : decode cX11_goesAlong 215 = .ok (.ifCond .eq 14, 3) := by decide +kernel
theorem dX11_goesAlong_218 : decode cX11_goesAlong 218 = .ok (.aload_n 0, 1) := by decide +kernel
theorem dX11_goesAlong_219 : decode cX11_goesAlong 219 = .ok (.getfield 259, 3) := by decide +kernel
theorem dX11_goesAlong_222 : decode cX11_goesAlong 222 = .ok (.ifCond .ne 7, 3) := by decide +kernel
theorem dX11_goesAlong_225 : decode cX11_goesAlong 225 = .ok (.iconst 1, 1) := by decide +kernel
theorem dX11_goesAlong_226 : decode cX11_goesAlong 226 = .ok (.goto 4, 3) := by decide +kernel
theorem dX11_goesAlong_229 : decode cX11_goesAlong 229 = .ok (.iconst 0, 1) := by decide +kernel
theorem dX11_goesAlong_230 : decode cX11_goesAlong 230 = .ok (.putfield 437, 3) := by decide +kernel
theorem dX11_goesAlong_233 : decode cX11_goesAlong 233 = .ok (.aload_n 0, 1) := by decide +kernel
theorem dX11_goesAlong_234 : decode cX11_goesAlong 234 = .ok (.dup, 1) := by decide +kernel
theorem dX11_goesAlong_235 : decode cX11_goesAlong 235 = .ok (.getfield 249, 3) := by decide +kernel
theorem dX11_goesAlong_238 : decode cX11_goesAlong 238 = .ok (.iconst 1, 1) := by decide +kernel
theorem dX11_goesAlong_239 : decode cX11_goesAlong 239 = .ok (.iadd, 1) := by decide +kernel
theorem dX11_goesAlong_240 : decode cX11_goesAlong 240 = .ok (.putfield 249, 3) := by decide +kernel
theorem dX11_goesAlong_243 : decode cX11_goesAlong 243 = .ok (.return_, 1) := by decide +kernel
theorem dX11_small_0 : decode cX11_small 0 = .ok (.lload_n 0, 1) := by decide +kernel
theorem dX11_small_1 : decode cX11_small 1 = .ok (.lconst 0, 1) := by decide +kernel
theorem dX11_small_2 : decode cX11_small 2 = .ok (.lcmp, 1) := by decide +kernel
theorem dX11_small_3 : decode cX11_small 3 = .ok (.ifCond .lt 11, 3) := by decide +kernel
theorem dX11_small_6 : decode cX11_small 6 = .ok (.lload_n 0, 1) := by decide +kernel
theorem dX11_small_7 : decode cX11_small 7 = .ok (.ldc2_w 377, 3) := by decide +kernel
theorem dX11_small_10 : decode cX11_small 10 = .ok (.lcmp, 1) := by decide +kernel
theorem dX11_small_11 : decode cX11_small 11 = .ok (.ifCond .le 7, 3) := by decide +kernel
theorem dX11_small_14 : decode cX11_small 14 = .ok (.iconst (-1), 1) := by decide +kernel
theorem dX11_small_15 : decode cX11_small 15 = .ok (.goto 5, 3) := by decide +kernel
theorem dX11_small_18 : decode cX11_small 18 = .ok (.lload_n 0, 1) := by decide +kernel
theorem dX11_small_19 : decode cX11_small 19 = .ok (.l2i, 1) := by decide +kernel
theorem dX11_small_20 : decode cX11_small 20 = .ok (.ireturn, 1) := by decide +kernel
theorem dX11_obeys_0 : decode cX11_obeys 0 = .ok (.aload_n 0, 1) := by decide +kernel
theorem dX11_obeys_1 : decode cX11_obeys 1 = .ok (.getfield 81, 3) := by decide +kernel
theorem dX11_obeys_4 : decode cX11_obeys 4 = .ok (.iconst 0, 1) := by decide +kernel
theorem dX11_obeys_5 : decode cX11_obeys 5 = .ok (.laload, 1) := by decide +kernel
theorem dX11_obeys_6 : decode cX11_obeys 6 = .ok (.invokestatic 440, 3) := by decide +kernel
theorem dX11_obeys_9 : decode cX11_obeys 9 = .ok (.istore_n 1, 1) := by decide +kernel
theorem dX11_obeys_10 : decode cX11_obeys 10 = .ok (.aload_n 0, 1) := by decide +kernel
theorem dX11_obeys_11 : decode cX11_obeys 11 = .ok (.getfield 81, 3) := by decide +kernel
theorem dX11_obeys_14 : decode cX11_obeys 14 = .ok (.iconst 1, 1) := by decide +kernel
theorem dX11_obeys_15 : decode cX11_obeys 15 = .ok (.laload, 1) := by decide +kernel
theorem dX11_obeys_16 : decode cX11_obeys 16 = .ok (.invokestatic 440, 3) := by decide +kernel
theorem dX11_obeys_19 : decode cX11_obeys 19 = .ok (.istore_n 2, 1) := by decide +kernel
theorem dX11_obeys_20 : decode cX11_obeys 20 = .ok (.aload_n 0, 1) := by decide +kernel
theorem dX11_obeys_21 : decode cX11_obeys 21 = .ok (.getfield 428, 3) := by decide +kernel
theorem dX11_obeys_24 : decode cX11_obeys 24 = .ok (.tableswitch 51 23 26 #[32, 38, 51, 45], 32) := by decide +kernel
theorem dX11_obeys_56 : decode cX11_obeys 56 = .ok (.aload_n 0, 1) := by decide +kernel
theorem dX11_obeys_57 : decode cX11_obeys 57 = .ok (.iload_n 1, 1) := by decide +kernel
theorem dX11_obeys_58 : decode cX11_obeys 58 = .ok (.invokevirtual 353, 3) := by decide +kernel
theorem dX11_obeys_61 : decode cX11_obeys 61 = .ok (.ireturn, 1) := by decide +kernel
theorem dX11_obeys_62 : decode cX11_obeys 62 = .ok (.aload_n 0, 1) := by decide +kernel
theorem dX11_obeys_63 : decode cX11_obeys 63 = .ok (.iload_n 1, 1) := by decide +kernel
theorem dX11_obeys_64 : decode cX11_obeys 64 = .ok (.iload_n 2, 1) := by decide +kernel
theorem dX11_obeys_65 : decode cX11_obeys 65 = .ok (.invokevirtual 356, 3) := by decide +kernel
theorem dX11_obeys_68 : decode cX11_obeys 68 = .ok (.ireturn, 1) := by decide +kernel
theorem dX11_obeys_69 : decode cX11_obeys 69 = .ok (.aload_n 0, 1) := by decide +kernel
theorem dX11_obeys_70 : decode cX11_obeys 70 = .ok (.iload_n 1, 1) := by decide +kernel
theorem dX11_obeys_71 : decode cX11_obeys 71 = .ok (.invokevirtual 359, 3) := by decide +kernel
theorem dX11_obeys_74 : decode cX11_obeys 74 = .ok (.ireturn, 1) := by decide +kernel
theorem dX11_obeys_75 : decode cX11_obeys 75 = .ok (.aload_n 0, 1) := by decide +kernel
theorem dX11_obeys_76 : decode cX11_obeys 76 = .ok (.iload_n 1, 1) := by decide +kernel
theorem dX11_obeys_77 : decode cX11_obeys 77 = .ok (.iload_n 2, 1) := by decide +kernel
theorem dX11_obeys_78 : decode cX11_obeys 78 = .ok (.invokevirtual 347, 3) := by decide +kernel
theorem dX11_obeys_81 : decode cX11_obeys 81 = .ok (.istore_n 3, 1) := by decide +kernel
theorem dX11_obeys_82 : decode cX11_obeys 82 = .ok (.aload_n 0, 1) := by decide +kernel
theorem dX11_obeys_83 : decode cX11_obeys 83 = .ok (.iload_n 3, 1) := by decide +kernel
theorem dX11_obeys_84 : decode cX11_obeys 84 = .ok (.ifCond .ge 10, 3) := by decide +kernel
theorem dX11_obeys_87 : decode cX11_obeys 87 = .ok (.aload_n 0, 1) := by decide +kernel
theorem dX11_obeys_88 : decode cX11_obeys 88 = .ok (.getfield 288, 3) := by decide +kernel
theorem dX11_obeys_91 : decode cX11_obeys 91 = .ok (.goto 4, 3) := by decide +kernel
theorem dX11_obeys_94 : decode cX11_obeys 94 = .ok (.iload_n 3, 1) := by decide +kernel
theorem dX11_obeys_95 : decode cX11_obeys 95 = .ok (.putfield 288, 3) := by decide +kernel
theorem dX11_obeys_98 : decode cX11_obeys 98 = .ok (.iload_n 3, 1) := by decide +kernel
theorem dX11_obeys_99 : decode cX11_obeys 99 = .ok (.ireturn, 1) := by decide +kernel
theorem dX11_runs_0 : decode cX11_runs 0 = .ok (.aload_n 0, 1) := by decide +kernel
theorem dX11_runs_1 : decode cX11_runs 1 = .ok (.iload_n 1, 1) := by decide +kernel
theorem dX11_runs_2 : decode cX11_runs 2 = .ok (.iconst 0, 1) := by decide +kernel
theorem dX11_runs_3 : decode cX11_runs 3 = .ok (.invokevirtual 444, 3) := by decide +kernel
theorem dX11_runs_6 : decode cX11_runs 6 = .ok (.aload_n 0, 1) := by decide +kernel
theorem dX11_runs_7 : decode cX11_runs 7 = .ok (.getfield 434, 3) := by decide +kernel
theorem dX11_runs_10 : decode cX11_runs 10 = .ok (.istore_n 2, 1) := by decide +kernel
theorem dX11_runs_11 : decode cX11_runs 11 = .ok (.aload_n 0, 1) := by decide +kernel
theorem dX11_runs_12 : decode cX11_runs 12 = .ok (.getfield 249, 3) := by decide +kernel
theorem dX11_runs_15 : decode cX11_runs 15 = .ok (.istore_n 3, 1) := by decide +kernel
theorem dX11_runs_16 : decode cX11_runs 16 = .ok (.iconst 0, 1) := by decide +kernel
theorem dX11_runs_17 : decode cX11_runs 17 = .ok (.istore 4, 2) := by decide +kernel
theorem dX11_runs_19 : decode cX11_runs 19 = .ok (.iload 4, 2) := by decide +kernel
theorem dX11_runs_21 : decode cX11_runs 21 = .ok (.iload_n 2, 1) := by decide +kernel
theorem dX11_runs_22 : decode cX11_runs 22 = .ok (.if_icmp .ge 51, 3) := by decide +kernel
theorem dX11_runs_25 : decode cX11_runs 25 = .ok (.aload_n 0, 1) := by decide +kernel
theorem dX11_runs_26 : decode cX11_runs 26 = .ok (.iload_n 1, 1) := by decide +kernel
theorem dX11_runs_27 : decode cX11_runs 27 = .ok (.iconst 1, 1) := by decide +kernel
theorem dX11_runs_28 : decode cX11_runs 28 = .ok (.invokevirtual 444, 3) := by decide +kernel
theorem dX11_runs_31 : decode cX11_runs 31 = .ok (.aload_n 0, 1) := by decide +kernel
theorem dX11_runs_32 : decode cX11_runs 32 = .ok (.getfield 437, 3) := by decide +kernel
theorem dX11_runs_35 : decode cX11_runs 35 = .ok (.ifCond .ne 6, 3) := by decide +kernel
theorem dX11_runs_38 : decode cX11_runs 38 = .ok (.goto 29, 3) := by decide +kernel
theorem dX11_runs_41 : decode cX11_runs 41 = .ok (.aload_n 0, 1) := by decide +kernel
theorem dX11_runs_42 : decode cX11_runs 42 = .ok (.getfield 431, 3) := by decide +kernel
theorem dX11_runs_45 : decode cX11_runs 45 = .ok (.ifCond .eq 10, 3) := by decide +kernel
theorem dX11_runs_48 : decode cX11_runs 48 = .ok (.aload_n 0, 1) := by decide +kernel
theorem dX11_runs_49 : decode cX11_runs 49 = .ok (.invokevirtual 448, 3) := by decide +kernel
theorem dX11_runs_52 : decode cX11_runs 52 = .ok (.ifCond .ge 5, 3) := by decide +kernel
theorem dX11_runs_55 : decode cX11_runs 55 = .ok (.iconst 0, 1) := by decide +kernel
theorem dX11_runs_56 : decode cX11_runs 56 = .ok (.ireturn, 1) := by decide +kernel
theorem dX11_runs_57 : decode cX11_runs 57 = .ok (.aload_n 0, 1) := by decide +kernel
theorem dX11_runs_58 : decode cX11_runs 58 = .ok (.dup, 1) := by decide +kernel
theorem dX11_runs_59 : decode cX11_runs 59 = .ok (.getfield 285, 3) := by decide +kernel
theorem dX11_runs_62 : decode cX11_runs 62 = .ok (.iconst 1, 1) := by decide +kernel
theorem dX11_runs_63 : decode cX11_runs 63 = .ok (.iadd, 1) := by decide +kernel
theorem dX11_runs_64 : decode cX11_runs 64 = .ok (.putfield 285, 3) := by decide +kernel
theorem dX11_runs_67 : decode cX11_runs 67 = .ok (.iinc 4 1, 3) := by decide +kernel
theorem dX11_runs_70 : decode cX11_runs 70 = .ok (.goto (-51), 3) := by decide +kernel
theorem dX11_runs_73 : decode cX11_runs 73 = .ok (.aload_n 0, 1) := by decide +kernel
theorem dX11_runs_74 : decode cX11_runs 74 = .ok (.iload_n 3, 1) := by decide +kernel
theorem dX11_runs_75 : decode cX11_runs 75 = .ok (.putfield 419, 3) := by decide +kernel
theorem dX11_runs_78 : decode cX11_runs 78 = .ok (.iconst 1, 1) := by decide +kernel
theorem dX11_runs_79 : decode cX11_runs 79 = .ok (.ireturn, 1) := by decide +kernel
theorem dX11_draws_0 : decode cX11_draws 0 = .ok (.aload_n 0, 1) := by decide +kernel
theorem dX11_draws_1 : decode cX11_draws 1 = .ok (.ldc2_w 451, 3) := by decide +kernel
theorem dX11_draws_4 : decode cX11_draws 4 = .ok (.aload_n 0, 1) := by decide +kernel
theorem dX11_draws_5 : decode cX11_draws 5 = .ok (.getfield 453, 3) := by decide +kernel
theorem dX11_draws_8 : decode cX11_draws 8 = .ok (.i2l, 1) := by decide +kernel
theorem dX11_draws_9 : decode cX11_draws 9 = .ok (.lmul, 1) := by decide +kernel
theorem dX11_draws_10 : decode cX11_draws 10 = .ok (.ldc2_w 456, 3) := by decide +kernel
theorem dX11_draws_13 : decode cX11_draws 13 = .ok (.ladd, 1) := by decide +kernel
theorem dX11_draws_14 : decode cX11_draws 14 = .ok (.ldc2_w 458, 3) := by decide +kernel
theorem dX11_draws_17 : decode cX11_draws 17 = .ok (.lrem, 1) := by decide +kernel
theorem dX11_draws_18 : decode cX11_draws 18 = .ok (.l2i, 1) := by decide +kernel
theorem dX11_draws_19 : decode cX11_draws 19 = .ok (.putfield 453, 3) := by decide +kernel
theorem dX11_draws_22 : decode cX11_draws 22 = .ok (.aload_n 0, 1) := by decide +kernel
theorem dX11_draws_23 : decode cX11_draws 23 = .ok (.getfield 453, 3) := by decide +kernel
theorem dX11_draws_26 : decode cX11_draws 26 = .ok (.iload_n 1, 1) := by decide +kernel
theorem dX11_draws_27 : decode cX11_draws 27 = .ok (.irem, 1) := by decide +kernel
theorem dX11_draws_28 : decode cX11_draws 28 = .ok (.ireturn, 1) := by decide +kernel
theorem dX11_whalesBy_0 : decode cX11_whalesBy 0 = .ok (.aload_n 0, 1) := by decide +kernel
theorem dX11_whalesBy_1 : decode cX11_whalesBy 1 = .ok (.getfield 24, 3) := by decide +kernel
theorem dX11_whalesBy_4 : decode cX11_whalesBy 4 = .ok (.bipush 39, 2) := by decide +kernel
theorem dX11_whalesBy_6 : decode cX11_whalesBy 6 = .ok (.iconst 3, 1) := by decide +kernel
theorem dX11_whalesBy_7 : decode cX11_whalesBy 7 = .ok (.iload_n 1, 1) := by decide +kernel
theorem dX11_whalesBy_8 : decode cX11_whalesBy 8 = .ok (.imul, 1) := by decide +kernel
theorem dX11_whalesBy_9 : decode cX11_whalesBy 9 = .ok (.iadd, 1) := by decide +kernel
theorem dX11_whalesBy_10 : decode cX11_whalesBy 10 = .ok (.iconst 2, 1) := by decide +kernel
theorem dX11_whalesBy_11 : decode cX11_whalesBy 11 = .ok (.iadd, 1) := by decide +kernel
theorem dX11_whalesBy_12 : decode cX11_whalesBy 12 = .ok (.iaload, 1) := by decide +kernel
theorem dX11_whalesBy_13 : decode cX11_whalesBy 13 = .ok (.istore_n 3, 1) := by decide +kernel
theorem dX11_whalesBy_14 : decode cX11_whalesBy 14 = .ok (.iload_n 3, 1) := by decide +kernel
theorem dX11_whalesBy_15 : decode cX11_whalesBy 15 = .ok (.aload_n 0, 1) := by decide +kernel
theorem dX11_whalesBy_16 : decode cX11_whalesBy 16 = .ok (.getfield 24, 3) := by decide +kernel
theorem dX11_whalesBy_19 : decode cX11_whalesBy 19 = .ok (.bipush 39, 2) := by decide +kernel
theorem dX11_whalesBy_21 : decode cX11_whalesBy 21 = .ok (.iconst 3, 1) := by decide +kernel
theorem dX11_whalesBy_22 : decode cX11_whalesBy 22 = .ok (.iload_n 1, 1) := by decide +kernel
theorem dX11_whalesBy_23 : decode cX11_whalesBy 23 = .ok (.imul, 1) := by decide +kernel
theorem dX11_whalesBy_24 : decode cX11_whalesBy 24 = .ok (.iadd, 1) := by decide +kernel
theorem dX11_whalesBy_25 : decode cX11_whalesBy 25 = .ok (.iconst 1, 1) := by decide +kernel
theorem dX11_whalesBy_26 : decode cX11_whalesBy 26 = .ok (.iadd, 1) := by decide +kernel
theorem dX11_whalesBy_27 : decode cX11_whalesBy 27 = .ok (.iaload, 1) := by decide +kernel
theorem dX11_whalesBy_28 : decode cX11_whalesBy 28 = .ok (.iadd, 1) := by decide +kernel
theorem dX11_whalesBy_29 : decode cX11_whalesBy 29 = .ok (.istore 4, 2) := by decide +kernel
theorem dX11_whalesBy_31 : decode cX11_whalesBy 31 = .ok (.iload 4, 2) := by decide +kernel
theorem dX11_whalesBy_33 : decode cX11_whalesBy 33 = .ok (.aload_n 0, 1) := by decide +kernel
theorem dX11_whalesBy_34 : decode cX11_whalesBy 34 = .ok (.getfield 24, 3) := by decide +kernel
theorem dX11_whalesBy_37 : decode cX11_whalesBy 37 = .ok (.bipush 39, 2) := by decide +kernel
theorem dX11_whalesBy_39 : decode cX11_whalesBy 39 = .ok (.iconst 3, 1) := by decide +kernel
theorem dX11_whalesBy_40 : decode cX11_whalesBy 40 = .ok (.iload_n 1, 1) := by decide +kernel
theorem dX11_whalesBy_41 : decode cX11_whalesBy 41 = .ok (.imul, 1) := by decide +kernel
theorem dX11_whalesBy_42 : decode cX11_whalesBy 42 = .ok (.iadd, 1) := by decide +kernel
theorem dX11_whalesBy_43 : decode cX11_whalesBy 43 = .ok (.iaload, 1) := by decide +kernel
theorem dX11_whalesBy_44 : decode cX11_whalesBy 44 = .ok (.iadd, 1) := by decide +kernel
theorem dX11_whalesBy_45 : decode cX11_whalesBy 45 = .ok (.istore 5, 2) := by decide +kernel
theorem dX11_whalesBy_47 : decode cX11_whalesBy 47 = .ok (.aload_n 0, 1) := by decide +kernel
theorem dX11_whalesBy_48 : decode cX11_whalesBy 48 = .ok (.getfield 24, 3) := by decide +kernel
theorem dX11_whalesBy_51 : decode cX11_whalesBy 51 = .ok (.bipush 19, 2) := by decide +kernel
theorem dX11_whalesBy_53 : decode cX11_whalesBy 53 = .ok (.iload_n 1, 1) := by decide +kernel
theorem dX11_whalesBy_54 : decode cX11_whalesBy 54 = .ok (.iadd, 1) := by decide +kernel
theorem dX11_whalesBy_55 : decode cX11_whalesBy 55 = .ok (.iaload, 1) := by decide +kernel
theorem dX11_whalesBy_56 : decode cX11_whalesBy 56 = .ok (.iload_n 2, 1) := by decide +kernel
theorem dX11_whalesBy_57 : decode cX11_whalesBy 57 = .ok (.iload_n 3, 1) := by decide +kernel
theorem dX11_whalesBy_58 : decode cX11_whalesBy 58 = .ok (.if_icmp .ge 7, 3) := by decide +kernel
theorem dX11_whalesBy_61 : decode cX11_whalesBy 61 = .ok (.iconst 3, 1) := by decide +kernel
theorem dX11_whalesBy_62 : decode cX11_whalesBy 62 = .ok (.goto 24, 3) := by decide +kernel
theorem dX11_whalesBy_65 : decode cX11_whalesBy 65 = .ok (.iload_n 2, 1) := by decide +kernel
theorem dX11_whalesBy_66 : decode cX11_whalesBy 66 = .ok (.iload 4, 2) := by decide +kernel
theorem dX11_whalesBy_68 : decode cX11_whalesBy 68 = .ok (.if_icmp .ge 7, 3) := by decide +kernel
theorem dX11_whalesBy_71 : decode cX11_whalesBy 71 = .ok (.iconst 2, 1) := by decide +kernel
theorem dX11_whalesBy_72 : decode cX11_whalesBy 72 = .ok (.goto 14, 3) := by decide +kernel
theorem dX11_whalesBy_75 : decode cX11_whalesBy 75 = .ok (.iload_n 2, 1) := by decide +kernel
theorem dX11_whalesBy_76 : decode cX11_whalesBy 76 = .ok (.iload 5, 2) := by decide +kernel
theorem dX11_whalesBy_78 : decode cX11_whalesBy 78 = .ok (.if_icmp .ge 7, 3) := by decide +kernel
theorem dX11_whalesBy_81 : decode cX11_whalesBy 81 = .ok (.iconst 1, 1) := by decide +kernel
theorem dX11_whalesBy_82 : decode cX11_whalesBy 82 = .ok (.goto 4, 3) := by decide +kernel
theorem dX11_whalesBy_85 : decode cX11_whalesBy 85 = .ok (.iconst 0, 1) := by decide +kernel
theorem dX11_whalesBy_86 : decode cX11_whalesBy 86 = .ok (.invokestatic 325, 3) := by decide +kernel
theorem dX11_whalesBy_89 : decode cX11_whalesBy 89 = .ok (.ireturn, 1) := by decide +kernel
theorem dX11_years_0 : decode cX11_years 0 = .ok (.iload_n 1, 1) := by decide +kernel
theorem dX11_years_1 : decode cX11_years 1 = .ok (.iconst 0, 1) := by decide +kernel
theorem dX11_years_2 : decode cX11_years 2 = .ok (.ldc 161, 2) := by decide +kernel
theorem dX11_years_4 : decode cX11_years 4 = .ok (.invokestatic 90, 3) := by decide +kernel
theorem dX11_years_7 : decode cX11_years 7 = .ok (.ifCond .eq 13, 3) := by decide +kernel
theorem dX11_years_10 : decode cX11_years 10 = .ok (.iload_n 2, 1) := by decide +kernel
theorem dX11_years_11 : decode cX11_years 11 = .ok (.iconst 1, 1) := by decide +kernel
theorem dX11_years_12 : decode cX11_years 12 = .ok (.bipush 60, 2) := by decide +kernel
theorem dX11_years_14 : decode cX11_years 14 = .ok (.invokestatic 90, 3) := by decide +kernel
theorem dX11_years_17 : decode cX11_years 17 = .ok (.ifCond .ne 9, 3) := by decide +kernel
theorem dX11_years_20 : decode cX11_years 20 = .ok (.aload_n 0, 1) := by decide +kernel
theorem dX11_years_21 : decode cX11_years 21 = .ok (.iconst (-1), 1) := by decide +kernel
theorem dX11_years_22 : decode cX11_years 22 = .ok (.invokevirtual 94, 3) := by decide +kernel
theorem dX11_years_25 : decode cX11_years 25 = .ok (.ireturn, 1) := by decide +kernel
theorem dX11_years_26 : decode cX11_years 26 = .ok (.aload_n 0, 1) := by decide +kernel
theorem dX11_years_27 : decode cX11_years 27 = .ok (.getfield 24, 3) := by decide +kernel
theorem dX11_years_30 : decode cX11_years 30 = .ok (.bipush 76, 2) := by decide +kernel
theorem dX11_years_32 : decode cX11_years 32 = .ok (.iaload, 1) := by decide +kernel
theorem dX11_years_33 : decode cX11_years 33 = .ok (.ifCond .ne 10, 3) := by decide +kernel
theorem dX11_years_36 : decode cX11_years 36 = .ok (.aload_n 0, 1) := by decide +kernel
theorem dX11_years_37 : decode cX11_years 37 = .ok (.bipush (-3), 2) := by decide +kernel
theorem dX11_years_39 : decode cX11_years 39 = .ok (.invokevirtual 94, 3) := by decide +kernel
theorem dX11_years_42 : decode cX11_years 42 = .ok (.ireturn, 1) := by decide +kernel
theorem dX11_years_43 : decode cX11_years 43 = .ok (.aload_n 0, 1) := by decide +kernel
theorem dX11_years_44 : decode cX11_years 44 = .ok (.iload_n 1, 1) := by decide +kernel
theorem dX11_years_45 : decode cX11_years 45 = .ok (.putfield 453, 3) := by decide +kernel
theorem dX11_years_48 : decode cX11_years 48 = .ok (.aload_n 0, 1) := by decide +kernel
theorem dX11_years_49 : decode cX11_years 49 = .ok (.aload_n 0, 1) := by decide +kernel
theorem dX11_years_50 : decode cX11_years 50 = .ok (.getfield 24, 3) := by decide +kernel
theorem dX11_years_53 : decode cX11_years 53 = .ok (.bipush 75, 2) := by decide +kernel
theorem dX11_years_55 : decode cX11_years 55 = .ok (.iaload, 1) := by decide +kernel
theorem dX11_years_56 : decode cX11_years 56 = .ok (.putfield 87, 3) := by decide +kernel
theorem dX11_years_59 : decode cX11_years 59 = .ok (.aload_n 0, 1) := by decide +kernel
theorem dX11_years_60 : decode cX11_years 60 = .ok (.aload_n 0, 1) := by decide +kernel
theorem dX11_years_61 : decode cX11_years 61 = .ok (.getfield 24, 3) := by decide +kernel
theorem dX11_years_64 : decode cX11_years 64 = .ok (.bipush 76, 2) := by decide +kernel
theorem dX11_years_66 : decode cX11_years 66 = .ok (.iaload, 1) := by decide +kernel
theorem dX11_years_67 : decode cX11_years 67 = .ok (.putfield 460, 3) := by decide +kernel
theorem dX11_years_70 : decode cX11_years 70 = .ok (.aload_n 0, 1) := by decide +kernel
theorem dX11_years_71 : decode cX11_years 71 = .ok (.iconst 1, 1) := by decide +kernel
theorem dX11_years_72 : decode cX11_years 72 = .ok (.invokevirtual 416, 3) := by decide +kernel
theorem dX11_years_75 : decode cX11_years 75 = .ok (.iconst 0, 1) := by decide +kernel
theorem dX11_years_76 : decode cX11_years 76 = .ok (.istore_n 3, 1) := by decide +kernel
theorem dX11_years_77 : decode cX11_years 77 = .ok (.iconst 0, 1) := by decide +kernel
theorem dX11_years_78 : decode cX11_years 78 = .ok (.istore 4, 2) := by decide +kernel
theorem dX11_years_80 : decode cX11_years 80 = .ok (.iload 4, 2) := by decide +kernel
theorem dX11_years_82 : decode cX11_years 82 = .ok (.iload_n 2, 1) := by decide +kernel
theorem dX11_years_83 : decode cX11_years 83 = .ok (.if_icmp .ge 47, 3) := by decide +kernel
theorem dX11_years_86 : decode cX11_years 86 = .ok (.aload_n 0, 1) := by decide +kernel
theorem dX11_years_87 : decode cX11_years 87 = .ok (.invokevirtual 334, 3) := by decide +kernel
theorem dX11_years_90 : decode cX11_years 90 = .ok (.ifCond .eq 40, 3) := by decide +kernel
theorem dX11_years_93 : decode cX11_years 93 = .ok (.aload_n 0, 1) := by decide +kernel
theorem dX11_years_94 : decode cX11_years 94 = .ok (.aload_n 0, 1) := by decide +kernel
theorem dX11_years_95 : decode cX11_years 95 = .ok (.getfield 460, 3) := by decide +kernel
theorem dX11_years_98 : decode cX11_years 98 = .ok (.invokevirtual 463, 3) := by decide +kernel
theorem dX11_years_101 : decode cX11_years 101 = .ok (.istore 5, 2) := by decide +kernel
theorem dX11_years_103 : decode cX11_years 103 = .ok (.iload_n 3, 1) := by decide +kernel
theorem dX11_years_104 : decode cX11_years 104 = .ok (.aload_n 0, 1) := by decide +kernel
theorem dX11_years_105 : decode cX11_years 105 = .ok (.iload 5, 2) := by decide +kernel
theorem dX11_years_107 : decode cX11_years 107 = .ok (.aload_n 0, 1) := by decide +kernel
theorem dX11_years_108 : decode cX11_years 108 = .ok (.iload 5, 2) := by decide +kernel
theorem dX11_years_110 : decode cX11_years 110 = .ok (.aload_n 0, 1) := by decide +kernel
theorem dX11_years_111 : decode cX11_years 111 = .ok (.bipush 10, 2) := by decide +kernel
theorem dX11_years_113 : decode cX11_years 113 = .ok (.invokevirtual 463, 3) := by decide +kernel
theorem dX11_years_116 : decode cX11_years 116 = .ok (.invokevirtual 466, 3) := by decide +kernel
theorem dX11_years_119 : decode cX11_years 119 = .ok (.invokevirtual 340, 3) := by decide +kernel
theorem dX11_years_122 : decode cX11_years 122 = .ok (.iadd, 1) := by decide +kernel
theorem dX11_years_123 : decode cX11_years 123 = .ok (.istore_n 3, 1) := by decide +kernel
theorem dX11_years_124 : decode cX11_years 124 = .ok (.iinc 4 1, 3) := by decide +kernel
theorem dX11_years_127 : decode cX11_years 127 = .ok (.goto (-47), 3) := by decide +kernel
theorem dX11_years_130 : decode cX11_years 130 = .ok (.iconst 0, 1) := by decide +kernel
theorem dX11_years_131 : decode cX11_years 131 = .ok (.istore 4, 2) := by decide +kernel
theorem dX11_years_133 : decode cX11_years 133 = .ok (.iload 4, 2) := by decide +kernel
theorem dX11_years_135 : decode cX11_years 135 = .ok (.bipush 23, 2) := by decide +kernel
theorem dX11_years_137 : decode cX11_years 137 = .ok (.if_icmp .ge 23, 3) := by decide +kernel
theorem dX11_years_140 : decode cX11_years 140 = .ok (.aload_n 0, 1) := by decide +kernel
theorem dX11_years_141 : decode cX11_years 141 = .ok (.getfield 84, 3) := by decide +kernel
theorem dX11_years_144 : decode cX11_years 144 = .ok (.iload 4, 2) := by decide +kernel
theorem dX11_years_146 : decode cX11_years 146 = .ok (.aload_n 0, 1) := by decide +kernel
theorem dX11_years_147 : decode cX11_years 147 = .ok (.getfield 24, 3) := by decide +kernel
theorem dX11_years_150 : decode cX11_years 150 = .ok (.iload 4, 2) := by decide +kernel
theorem dX11_years_152 : decode cX11_years 152 = .ok (.iaload, 1) := by decide +kernel
theorem dX11_years_153 : decode cX11_years 153 = .ok (.iastore, 1) := by decide +kernel
theorem dX11_years_154 : decode cX11_years 154 = .ok (.iinc 4 1, 3) := by decide +kernel
theorem dX11_years_157 : decode cX11_years 157 = .ok (.goto (-24), 3) := by decide +kernel
theorem dX11_years_160 : decode cX11_years 160 = .ok (.aload_n 0, 1) := by decide +kernel
theorem dX11_years_161 : decode cX11_years 161 = .ok (.iconst 1, 1) := by decide +kernel
theorem dX11_years_162 : decode cX11_years 162 = .ok (.invokevirtual 425, 3) := by decide +kernel
theorem dX11_years_165 : decode cX11_years 165 = .ok (.aload_n 0, 1) := by decide +kernel
theorem dX11_years_166 : decode cX11_years 166 = .ok (.iload_n 3, 1) := by decide +kernel
theorem dX11_years_167 : decode cX11_years 167 = .ok (.invokevirtual 14, 3) := by decide +kernel
theorem dX11_years_170 : decode cX11_years 170 = .ok (.ireturn, 1) := by decide +kernel
theorem dX11_drawn_0 : decode cX11_drawn 0 = .ok (.aload_n 0, 1) := by decide +kernel
theorem dX11_drawn_1 : decode cX11_drawn 1 = .ok (.getfield 87, 3) := by decide +kernel
theorem dX11_drawn_4 : decode cX11_drawn 4 = .ok (.iconst (-1), 1) := by decide +kernel
theorem dX11_drawn_5 : decode cX11_drawn 5 = .ok (.if_icmp .ne 5, 3) := by decide +kernel
theorem dX11_drawn_8 : decode cX11_drawn 8 = .ok (.iconst (-1), 1) := by decide +kernel
theorem dX11_drawn_9 : decode cX11_drawn 9 = .ok (.ireturn, 1) := by decide +kernel
theorem dX11_drawn_10 : decode cX11_drawn 10 = .ok (.iload_n 2, 1) := by decide +kernel
theorem dX11_drawn_11 : decode cX11_drawn 11 = .ok (.tableswitch 98 0 3 #[29, 36, 43, 71], 29) := by decide +kernel
theorem dX11_drawn_40 : decode cX11_drawn 40 = .ok (.aload_n 0, 1) := by decide +kernel
theorem dX11_drawn_41 : decode cX11_drawn 41 = .ok (.getfield 84, 3) := by decide +kernel
theorem dX11_drawn_44 : decode cX11_drawn 44 = .ok (.iconst 0, 1) := by decide +kernel
theorem dX11_drawn_45 : decode cX11_drawn 45 = .ok (.iaload, 1) := by decide +kernel
theorem dX11_drawn_46 : decode cX11_drawn 46 = .ok (.ireturn, 1) := by decide +kernel
theorem dX11_drawn_47 : decode cX11_drawn 47 = .ok (.aload_n 0, 1) := by decide +kernel
theorem dX11_drawn_48 : decode cX11_drawn 48 = .ok (.getfield 84, 3) := by decide +kernel
theorem dX11_drawn_51 : decode cX11_drawn 51 = .ok (.iconst 2, 1) := by decide +kernel
theorem dX11_drawn_52 : decode cX11_drawn 52 = .ok (.iaload, 1) := by decide +kernel
theorem dX11_drawn_53 : decode cX11_drawn 53 = .ok (.ireturn, 1) := by decide +kernel
theorem dX11_drawn_54 : decode cX11_drawn 54 = .ok (.iload_n 1, 1) := by decide +kernel
theorem dX11_drawn_55 : decode cX11_drawn 55 = .ok (.iconst 0, 1) := by decide +kernel
theorem dX11_drawn_56 : decode cX11_drawn 56 = .ok (.aload_n 0, 1) := by decide +kernel
theorem dX11_drawn_57 : decode cX11_drawn 57 = .ok (.getfield 460, 3) := by decide +kernel
theorem dX11_drawn_60 : decode cX11_drawn 60 = .ok (.iconst 1, 1) := by decide +kernel
theorem dX11_drawn_61 : decode cX11_drawn 61 = .ok (.isub, 1) := by decide +kernel
theorem dX11_drawn_62 : decode cX11_drawn 62 = .ok (.invokestatic 90, 3) := by decide +kernel
theorem dX11_drawn_65 : decode cX11_drawn 65 = .ok (.ifCond .eq 15, 3) := by decide +kernel
theorem dX11_drawn_68 : decode cX11_drawn 68 = .ok (.aload_n 0, 1) := by decide +kernel
theorem dX11_drawn_69 : decode cX11_drawn 69 = .ok (.getfield 84, 3) := by decide +kernel
theorem dX11_drawn_72 : decode cX11_drawn 72 = .ok (.bipush 19, 2) := by decide +kernel
theorem dX11_drawn_74 : decode cX11_drawn 74 = .ok (.iload_n 1, 1) := by decide +kernel
theorem dX11_drawn_75 : decode cX11_drawn 75 = .ok (.iadd, 1) := by decide +kernel
theorem dX11_drawn_76 : decode cX11_drawn 76 = .ok (.iaload, 1) := by decide +kernel
theorem dX11_drawn_77 : decode cX11_drawn 77 = .ok (.goto 4, 3) := by decide +kernel
theorem dX11_drawn_80 : decode cX11_drawn 80 = .ok (.iconst (-1), 1) := by decide +kernel
theorem dX11_drawn_81 : decode cX11_drawn 81 = .ok (.ireturn, 1) := by decide +kernel
theorem dX11_drawn_82 : decode cX11_drawn 82 = .ok (.iload_n 1, 1) := by decide +kernel
theorem dX11_drawn_83 : decode cX11_drawn 83 = .ok (.iconst 0, 1) := by decide +kernel
theorem dX11_drawn_84 : decode cX11_drawn 84 = .ok (.aload_n 0, 1) := by decide +kernel
theorem dX11_drawn_85 : decode cX11_drawn 85 = .ok (.getfield 87, 3) := by decide +kernel
theorem dX11_drawn_88 : decode cX11_drawn 88 = .ok (.iconst 1, 1) := by decide +kernel
theorem dX11_drawn_89 : decode cX11_drawn 89 = .ok (.isub, 1) := by decide +kernel
theorem dX11_drawn_90 : decode cX11_drawn 90 = .ok (.invokestatic 90, 3) := by decide +kernel
theorem dX11_drawn_93 : decode cX11_drawn 93 = .ok (.ifCond .eq 14, 3) := by decide +kernel
theorem dX11_drawn_96 : decode cX11_drawn 96 = .ok (.aload_n 0, 1) := by decide +kernel
theorem dX11_drawn_97 : decode cX11_drawn 97 = .ok (.getfield 84, 3) := by decide +kernel
theorem dX11_drawn_100 : decode cX11_drawn 100 = .ok (.iconst 3, 1) := by decide +kernel
theorem dX11_drawn_101 : decode cX11_drawn 101 = .ok (.iload_n 1, 1) := by decide +kernel
theorem dX11_drawn_102 : decode cX11_drawn 102 = .ok (.iadd, 1) := by decide +kernel
theorem dX11_drawn_103 : decode cX11_drawn 103 = .ok (.iaload, 1) := by decide +kernel
theorem dX11_drawn_104 : decode cX11_drawn 104 = .ok (.goto 4, 3) := by decide +kernel
theorem dX11_drawn_107 : decode cX11_drawn 107 = .ok (.iconst (-1), 1) := by decide +kernel
theorem dX11_drawn_108 : decode cX11_drawn 108 = .ok (.ireturn, 1) := by decide +kernel
theorem dX11_drawn_109 : decode cX11_drawn 109 = .ok (.iconst (-1), 1) := by decide +kernel
theorem dX11_drawn_110 : decode cX11_drawn 110 = .ok (.ireturn, 1) := by decide +kernel
theorem dX11_count_0 : decode cX11_count 0 = .ok (.iload_n 1, 1) := by decide +kernel
theorem dX11_count_1 : decode cX11_count 1 = .ok (.tableswitch 201 0 17 #[87, 95, 100, 108, 116, 124, 129, 134, 134, 134, 144, 151, 159, 167, 174, 181, 188, 188], 87) := by decide +kernel
theorem dX11_count_88 : decode cX11_count 88 = .ok (.aload_n 0, 1) := by decide +kernel
theorem dX11_count_89 : decode cX11_count 89 = .ok (.getfield 24, 3) := by decide +kernel
theorem dX11_count_92 : decode cX11_count 92 = .ok (.bipush 75, 2) := by decide +kernel
theorem dX11_count_94 : decode cX11_count 94 = .ok (.iaload, 1) := by decide +kernel
theorem dX11_count_95 : decode cX11_count 95 = .ok (.ireturn, 1) := by decide +kernel
theorem dX11_count_96 : decode cX11_count 96 = .ok (.aload_n 0, 1) := by decide +kernel
theorem dX11_count_97 : decode cX11_count 97 = .ok (.invokevirtual 108, 3) := by decide +kernel
theorem dX11_count_100 : decode cX11_count 100 = .ok (.ireturn, 1) := by decide +kernel
theorem dX11_count_101 : decode cX11_count 101 = .ok (.aload_n 0, 1) := by decide +kernel
theorem dX11_count_102 : decode cX11_count 102 = .ok (.getfield 24, 3) := by decide +kernel
theorem dX11_count_105 : decode cX11_count 105 = .ok (.bipush 76, 2) := by decide +kernel
theorem dX11_count_107 : decode cX11_count 107 = .ok (.iaload, 1) := by decide +kernel
theorem dX11_count_108 : decode cX11_count 108 = .ok (.ireturn, 1) := by decide +kernel
theorem dX11_count_109 : decode cX11_count 109 = .ok (.aload_n 0, 1) := by decide +kernel
theorem dX11_count_110 : decode cX11_count 110 = .ok (.getfield 24, 3) := by decide +kernel
theorem dX11_count_113 : decode cX11_count 113 = .ok (.bipush 77, 2) := by decide +kernel
theorem dX11_count_115 : decode cX11_count 115 = .ok (.iaload, 1) := by decide +kernel
theorem dX11_count_116 : decode cX11_count 116 = .ok (.ireturn, 1) := by decide +kernel
theorem dX11_count_117 : decode cX11_count 117 = .ok (.aload_n 0, 1) := by decide +kernel
theorem dX11_count_118 : decode cX11_count 118 = .ok (.getfield 24, 3) := by decide +kernel
theorem dX11_count_121 : decode cX11_count 121 = .ok (.bipush 78, 2) := by decide +kernel
theorem dX11_count_123 : decode cX11_count 123 = .ok (.iaload, 1) := by decide +kernel
theorem dX11_count_124 : decode cX11_count 124 = .ok (.ireturn, 1) := by decide +kernel
theorem dX11_count_125 : decode cX11_count 125 = .ok (.aload_n 0, 1) := by decide +kernel
theorem dX11_count_126 : decode cX11_count 126 = .ok (.getfield 11, 3) := by decide +kernel
theorem dX11_count_129 : decode cX11_count 129 = .ok (.ireturn, 1) := by decide +kernel
theorem dX11_count_130 : decode cX11_count 130 = .ok (.aload_n 0, 1) := by decide +kernel
theorem dX11_count_131 : decode cX11_count 131 = .ok (.getfield 143, 3) := by decide +kernel
theorem dX11_count_134 : decode cX11_count 134 = .ok (.ireturn, 1) := by decide +kernel
theorem dX11_count_135 : decode cX11_count 135 = .ok (.aload_n 0, 1) := by decide +kernel
theorem dX11_count_136 : decode cX11_count 136 = .ok (.getfield 7, 3) := by decide +kernel
theorem dX11_count_139 : decode cX11_count 139 = .ok (.iload_n 1, 1) := by decide +kernel
theorem dX11_count_140 : decode cX11_count 140 = .ok (.bipush 6, 2) := by decide +kernel
theorem dX11_count_142 : decode cX11_count 142 = .ok (.isub, 1) := by decide +kernel
theorem dX11_count_143 : decode cX11_count 143 = .ok (.iaload, 1) := by decide +kernel
theorem dX11_count_144 : decode cX11_count 144 = .ok (.ireturn, 1) := by decide +kernel
theorem dX11_count_145 : decode cX11_count 145 = .ok (.aload_n 0, 1) := by decide +kernel
theorem dX11_count_146 : decode cX11_count 146 = .ok (.getfield 7, 3) := by decide +kernel
theorem dX11_count_149 : decode cX11_count 149 = .ok (.iconst 5, 1) := by decide +kernel
theorem dX11_count_150 : decode cX11_count 150 = .ok (.iaload, 1) := by decide +kernel
theorem dX11_count_151 : decode cX11_count 151 = .ok (.ireturn, 1) := by decide +kernel
theorem dX11_count_152 : decode cX11_count 152 = .ok (.aload_n 0, 1) := by decide +kernel
theorem dX11_count_153 : decode cX11_count 153 = .ok (.getfield 7, 3) := by decide +kernel
theorem dX11_count_156 : decode cX11_count 156 = .ok (.bipush 6, 2) := by decide +kernel
theorem dX11_count_158 : decode cX11_count 158 = .ok (.iaload, 1) := by decide +kernel
theorem dX11_count_159 : decode cX11_count 159 = .ok (.ireturn, 1) := by decide +kernel
theorem dX11_count_160 : decode cX11_count 160 = .ok (.aload_n 0, 1) := by decide +kernel
theorem dX11_count_161 : decode cX11_count 161 = .ok (.getfield 24, 3) := by decide +kernel
theorem dX11_count_164 : decode cX11_count 164 = .ok (.bipush 79, 2) := by decide +kernel
theorem dX11_count_166 : decode cX11_count 166 = .ok (.iaload, 1) := by decide +kernel
theorem dX11_count_167 : decode cX11_count 167 = .ok (.ireturn, 1) := by decide +kernel
theorem dX11_count_168 : decode cX11_count 168 = .ok (.aload_n 0, 1) := by decide +kernel
theorem dX11_count_169 : decode cX11_count 169 = .ok (.getfield 24, 3) := by decide +kernel
theorem dX11_count_172 : decode cX11_count 172 = .ok (.iconst 0, 1) := by decide +kernel
theorem dX11_count_173 : decode cX11_count 173 = .ok (.iaload, 1) := by decide +kernel
theorem dX11_count_174 : decode cX11_count 174 = .ok (.ireturn, 1) := by decide +kernel
theorem dX11_count_175 : decode cX11_count 175 = .ok (.aload_n 0, 1) := by decide +kernel
theorem dX11_count_176 : decode cX11_count 176 = .ok (.getfield 24, 3) := by decide +kernel
theorem dX11_count_179 : decode cX11_count 179 = .ok (.iconst 1, 1) := by decide +kernel
theorem dX11_count_180 : decode cX11_count 180 = .ok (.iaload, 1) := by decide +kernel
theorem dX11_count_181 : decode cX11_count 181 = .ok (.ireturn, 1) := by decide +kernel
theorem dX11_count_182 : decode cX11_count 182 = .ok (.aload_n 0, 1) := by decide +kernel
theorem dX11_count_183 : decode cX11_count 183 = .ok (.getfield 24, 3) := by decide +kernel
theorem dX11_count_186 : decode cX11_count 186 = .ok (.iconst 2, 1) := by decide +kernel
theorem dX11_count_187 : decode cX11_count 187 = .ok (.iaload, 1) := by decide +kernel
theorem dX11_count_188 : decode cX11_count 188 = .ok (.ireturn, 1) := by decide +kernel
theorem dX11_count_189 : decode cX11_count 189 = .ok (.aload_n 0, 1) := by decide +kernel
theorem dX11_count_190 : decode cX11_count 190 = .ok (.getfield 24, 3) := by decide +kernel
theorem dX11_count_193 : decode cX11_count 193 = .ok (.bipush 73, 2) := by decide +kernel
theorem dX11_count_195 : decode cX11_count 195 = .ok (.iload_n 1, 1) := by decide +kernel
theorem dX11_count_196 : decode cX11_count 196 = .ok (.iadd, 1) := by decide +kernel
theorem dX11_count_197 : decode cX11_count 197 = .ok (.bipush 16, 2) := by decide +kernel
theorem dX11_count_199 : decode cX11_count 199 = .ok (.isub, 1) := by decide +kernel
theorem dX11_count_200 : decode cX11_count 200 = .ok (.iaload, 1) := by decide +kernel
theorem dX11_count_201 : decode cX11_count 201 = .ok (.ireturn, 1) := by decide +kernel
theorem dX11_count_202 : decode cX11_count 202 = .ok (.iload_n 1, 1) := by decide +kernel
theorem dX11_count_203 : decode cX11_count 203 = .ok (.bipush 18, 2) := by decide +kernel
theorem dX11_count_205 : decode cX11_count 205 = .ok (.bipush 23, 2) := by decide +kernel
theorem dX11_count_207 : decode cX11_count 207 = .ok (.invokestatic 90, 3) := by decide +kernel
theorem dX11_count_210 : decode cX11_count 210 = .ok (.ifCond .eq 18, 3) := by decide +kernel
theorem dX11_count_213 : decode cX11_count 213 = .ok (.aload_n 0, 1) := by decide +kernel
theorem dX11_count_214 : decode cX11_count 214 = .ok (.getfield 24, 3) := by decide +kernel
theorem dX11_count_217 : decode cX11_count 217 = .ok (.bipush 51, 2) := by decide +kernel
theorem dX11_count_219 : decode cX11_count 219 = .ok (.iload_n 1, 1) := by decide +kernel
theorem dX11_count_220 : decode cX11_count 220 = .ok (.iadd, 1) := by decide +kernel
theorem dX11_count_221 : decode cX11_count 221 = .ok (.bipush 18, 2) := by decide +kernel
theorem dX11_count_223 : decode cX11_count 223 = .ok (.isub, 1) := by decide +kernel
theorem dX11_count_224 : decode cX11_count 224 = .ok (.iaload, 1) := by decide +kernel
theorem dX11_count_225 : decode cX11_count 225 = .ok (.goto 4, 3) := by decide +kernel
theorem dX11_count_228 : decode cX11_count 228 = .ok (.iconst (-1), 1) := by decide +kernel
theorem dX11_count_229 : decode cX11_count 229 = .ok (.ireturn, 1) := by decide +kernel
theorem dX11_status_0 : decode cX11_status 0 = .ok (.aload_n 0, 1) := by decide +kernel
theorem dX11_status_1 : decode cX11_status 1 = .ok (.getfield 3, 3) := by decide +kernel
theorem dX11_status_4 : decode cX11_status 4 = .ok (.ireturn, 1) := by decide +kernel
