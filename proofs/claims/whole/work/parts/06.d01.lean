theorem dX4_act_103 : decode cX4_act 103 = .ok (.iload_n 3, 1) := by decide +kernel
theorem dX4_act_104 : decode cX4_act 104 = .ok (.bipush 16, 2) := by decide +kernel
theorem dX4_act_106 : decode cX4_act 106 = .ok (.isub, 1) := by decide +kernel
theorem dX4_act_107 : decode cX4_act 107 = .ok (.invokevirtual 43, 3) := by decide +kernel
theorem dX4_act_110 : decode cX4_act 110 = .ok (.iload 6, 2) := by decide +kernel
theorem dX4_act_112 : decode cX4_act 112 = .ok (.ireturn, 1) := by decide +kernel
theorem dX4_takeWhales_0 : decode cX4_takeWhales 0 = .ok (.iload_n 3, 1) := by decide +kernel
theorem dX4_takeWhales_1 : decode cX4_takeWhales 1 = .ok (.ifCond .lt 8, 3) := by decide +kernel
theorem dX4_takeWhales_4 : decode cX4_takeWhales 4 = .ok (.iload_n 3, 1) := by decide +kernel
theorem dX4_takeWhales_5 : decode cX4_takeWhales 5 = .ok (.iconst 3, 1) := by decide +kernel
theorem dX4_takeWhales_6 : decode cX4_takeWhales 6 = .ok (.if_icmp .le 5, 3) := by decide +kernel
theorem dX4_takeWhales_9 : decode cX4_takeWhales 9 = .ok (.iconst (-1), 1) := by decide +kernel
theorem dX4_takeWhales_10 : decode cX4_takeWhales 10 = .ok (.ireturn, 1) := by decide +kernel
theorem dX4_takeWhales_11 : decode cX4_takeWhales 11 = .ok (.aload_n 1, 1) := by decide +kernel
theorem dX4_takeWhales_12 : decode cX4_takeWhales 12 = .ok (.iload_n 2, 1) := by decide +kernel
theorem dX4_takeWhales_13 : decode cX4_takeWhales 13 = .ok (.invokevirtual 47, 3) := by decide +kernel
theorem dX4_takeWhales_16 : decode cX4_takeWhales 16 = .ok (.ifCond .ne 6, 3) := by decide +kernel
theorem dX4_takeWhales_19 : decode cX4_takeWhales 19 = .ok (.bipush (-2), 2) := by decide +kernel
theorem dX4_takeWhales_21 : decode cX4_takeWhales 21 = .ok (.ireturn, 1) := by decide +kernel
theorem dX4_takeWhales_22 : decode cX4_takeWhales 22 = .ok (.aload_n 1, 1) := by decide +kernel
theorem dX4_takeWhales_23 : decode cX4_takeWhales 23 = .ok (.getfield 53, 3) := by decide +kernel
theorem dX4_takeWhales_26 : decode cX4_takeWhales 26 = .ok (.ifCond .eq 24, 3) := by decide +kernel
theorem dX4_takeWhales_29 : decode cX4_takeWhales 29 = .ok (.aload_n 1, 1) := by decide +kernel
theorem dX4_takeWhales_30 : decode cX4_takeWhales 30 = .ok (.getfield 57, 3) := by decide +kernel
theorem dX4_takeWhales_33 : decode cX4_takeWhales 33 = .ok (.iconst 0, 1) := by decide +kernel
theorem dX4_takeWhales_34 : decode cX4_takeWhales 34 = .ok (.iaload, 1) := by decide +kernel
theorem dX4_takeWhales_35 : decode cX4_takeWhales 35 = .ok (.bipush 71, 2) := by decide +kernel
theorem dX4_takeWhales_37 : decode cX4_takeWhales 37 = .ok (.if_icmp .ge 13, 3) := by decide +kernel
theorem dX4_takeWhales_40 : decode cX4_takeWhales 40 = .ok (.iload_n 3, 1) := by decide +kernel
theorem dX4_takeWhales_41 : decode cX4_takeWhales 41 = .ok (.aload_n 1, 1) := by decide +kernel
theorem dX4_takeWhales_42 : decode cX4_takeWhales 42 = .ok (.getfield 60, 3) := by decide +kernel
theorem dX4_takeWhales_45 : decode cX4_takeWhales 45 = .ok (.iload_n 2, 1) := by decide +kernel
theorem dX4_takeWhales_46 : decode cX4_takeWhales 46 = .ok (.iaload, 1) := by decide +kernel
theorem dX4_takeWhales_47 : decode cX4_takeWhales 47 = .ok (.if_icmp .le 6, 3) := by decide +kernel
theorem dX4_takeWhales_50 : decode cX4_takeWhales 50 = .ok (.bipush (-3), 2) := by decide +kernel
theorem dX4_takeWhales_52 : decode cX4_takeWhales 52 = .ok (.ireturn, 1) := by decide +kernel
theorem dX4_takeWhales_53 : decode cX4_takeWhales 53 = .ok (.aload_n 0, 1) := by decide +kernel
theorem dX4_takeWhales_54 : decode cX4_takeWhales 54 = .ok (.getfield 15, 3) := by decide +kernel
theorem dX4_takeWhales_57 : decode cX4_takeWhales 57 = .ok (.aload_n 1, 1) := by decide +kernel
theorem dX4_takeWhales_58 : decode cX4_takeWhales 58 = .ok (.iload_n 2, 1) := by decide +kernel
theorem dX4_takeWhales_59 : decode cX4_takeWhales 59 = .ok (.aload_n 1, 1) := by decide +kernel
theorem dX4_takeWhales_60 : decode cX4_takeWhales 60 = .ok (.invokevirtual 63, 3) := by decide +kernel
theorem dX4_takeWhales_63 : decode cX4_takeWhales 63 = .ok (.invokevirtual 67, 3) := by decide +kernel
theorem dX4_takeWhales_66 : decode cX4_takeWhales 66 = .ok (.istore 4, 2) := by decide +kernel
theorem dX4_takeWhales_68 : decode cX4_takeWhales 68 = .ok (.iconst 0, 1) := by decide +kernel
theorem dX4_takeWhales_69 : decode cX4_takeWhales 69 = .ok (.istore 5, 2) := by decide +kernel
theorem dX4_takeWhales_71 : decode cX4_takeWhales 71 = .ok (.iload 5, 2) := by decide +kernel
theorem dX4_takeWhales_73 : decode cX4_takeWhales 73 = .ok (.aload_n 1, 1) := by decide +kernel
theorem dX4_takeWhales_74 : decode cX4_takeWhales 74 = .ok (.getfield 72, 3) := by decide +kernel
theorem dX4_takeWhales_77 : decode cX4_takeWhales 77 = .ok (.if_icmp .ge 39, 3) := by decide +kernel
theorem dX4_takeWhales_80 : decode cX4_takeWhales 80 = .ok (.aload_n 0, 1) := by decide +kernel
theorem dX4_takeWhales_81 : decode cX4_takeWhales 81 = .ok (.getfield 9, 3) := by decide +kernel
theorem dX4_takeWhales_84 : decode cX4_takeWhales 84 = .ok (.iload 5, 2) := by decide +kernel
theorem dX4_takeWhales_86 : decode cX4_takeWhales 86 = .ok (.aload_n 1, 1) := by decide +kernel
theorem dX4_takeWhales_87 : decode cX4_takeWhales 87 = .ok (.iload 5, 2) := by decide +kernel
theorem dX4_takeWhales_89 : decode cX4_takeWhales 89 = .ok (.invokevirtual 75, 3) := by decide +kernel
theorem dX4_takeWhales_92 : decode cX4_takeWhales 92 = .ok (.ifCond .eq 16, 3) := by decide +kernel
theorem dX4_takeWhales_95 : decode cX4_takeWhales 95 = .ok (.aload_n 0, 1) := by decide +kernel
theorem dX4_takeWhales_96 : decode cX4_takeWhales 96 = .ok (.getfield 15, 3) := by decide +kernel
theorem dX4_takeWhales_99 : decode cX4_takeWhales 99 = .ok (.aload_n 1, 1) := by decide +kernel
theorem dX4_takeWhales_100 : decode cX4_takeWhales 100 = .ok (.iload 5, 2) := by decide +kernel
theorem dX4_takeWhales_102 : decode cX4_takeWhales 102 = .ok (.invokevirtual 78, 3) := by decide +kernel
theorem dX4_takeWhales_105 : decode cX4_takeWhales 105 = .ok (.goto 4, 3) := by decide +kernel
theorem dX4_takeWhales_108 : decode cX4_takeWhales 108 = .ok (.iconst 0, 1) := by decide +kernel
theorem dX4_takeWhales_109 : decode cX4_takeWhales 109 = .ok (.iastore, 1) := by decide +kernel
theorem dX4_takeWhales_110 : decode cX4_takeWhales 110 = .ok (.iinc 5 1, 3) := by decide +kernel
theorem dX4_takeWhales_113 : decode cX4_takeWhales 113 = .ok (.goto (-42), 3) := by decide +kernel
theorem dX4_takeWhales_116 : decode cX4_takeWhales 116 = .ok (.aload_n 1, 1) := by decide +kernel
theorem dX4_takeWhales_117 : decode cX4_takeWhales 117 = .ok (.aload_n 1, 1) := by decide +kernel
theorem dX4_takeWhales_118 : decode cX4_takeWhales 118 = .ok (.getfield 57, 3) := by decide +kernel
theorem dX4_takeWhales_121 : decode cX4_takeWhales 121 = .ok (.iconst 1, 1) := by decide +kernel
theorem dX4_takeWhales_122 : decode cX4_takeWhales 122 = .ok (.iaload, 1) := by decide +kernel
theorem dX4_takeWhales_123 : decode cX4_takeWhales 123 = .ok (.aload_n 1, 1) := by decide +kernel
theorem dX4_takeWhales_124 : decode cX4_takeWhales 124 = .ok (.getfield 81, 3) := by decide +kernel
theorem dX4_takeWhales_127 : decode cX4_takeWhales 127 = .ok (.iload 4, 2) := by decide +kernel
theorem dX4_takeWhales_129 : decode cX4_takeWhales 129 = .ok (.iload_n 3, 1) := by decide +kernel
theorem dX4_takeWhales_130 : decode cX4_takeWhales 130 = .ok (.imul, 1) := by decide +kernel
theorem dX4_takeWhales_131 : decode cX4_takeWhales 131 = .ok (.iadd, 1) := by decide +kernel
theorem dX4_takeWhales_132 : decode cX4_takeWhales 132 = .ok (.invokestatic 84, 3) := by decide +kernel
theorem dX4_takeWhales_135 : decode cX4_takeWhales 135 = .ok (.putfield 81, 3) := by decide +kernel
theorem dX4_takeWhales_138 : decode cX4_takeWhales 138 = .ok (.aload_n 1, 1) := by decide +kernel
theorem dX4_takeWhales_139 : decode cX4_takeWhales 139 = .ok (.getfield 60, 3) := by decide +kernel
theorem dX4_takeWhales_142 : decode cX4_takeWhales 142 = .ok (.iload_n 2, 1) := by decide +kernel
theorem dX4_takeWhales_143 : decode cX4_takeWhales 143 = .ok (.dup2, 1) := by decide +kernel
theorem dX4_takeWhales_144 : decode cX4_takeWhales 144 = .ok (.iaload, 1) := by decide +kernel
theorem dX4_takeWhales_145 : decode cX4_takeWhales 145 = .ok (.iload_n 3, 1) := by decide +kernel
theorem dX4_takeWhales_146 : decode cX4_takeWhales 146 = .ok (.isub, 1) := by decide +kernel
theorem dX4_takeWhales_147 : decode cX4_takeWhales 147 = .ok (.iastore, 1) := by decide +kernel
theorem dX4_takeWhales_148 : decode cX4_takeWhales 148 = .ok (.iconst 0, 1) := by decide +kernel
theorem dX4_takeWhales_149 : decode cX4_takeWhales 149 = .ok (.istore 5, 2) := by decide +kernel
theorem dX4_takeWhales_151 : decode cX4_takeWhales 151 = .ok (.iload 5, 2) := by decide +kernel
theorem dX4_takeWhales_153 : decode cX4_takeWhales 153 = .ok (.aload_n 1, 1) := by decide +kernel
theorem dX4_takeWhales_154 : decode cX4_takeWhales 154 = .ok (.getfield 72, 3) := by decide +kernel
theorem dX4_takeWhales_157 : decode cX4_takeWhales 157 = .ok (.if_icmp .ge 37, 3) := by decide +kernel
theorem dX4_takeWhales_160 : decode cX4_takeWhales 160 = .ok (.aload_n 1, 1) := by decide +kernel
theorem dX4_takeWhales_161 : decode cX4_takeWhales 161 = .ok (.getfield 90, 3) := by decide +kernel
theorem dX4_takeWhales_164 : decode cX4_takeWhales 164 = .ok (.iload 5, 2) := by decide +kernel
theorem dX4_takeWhales_166 : decode cX4_takeWhales 166 = .ok (.sipush 9999, 3) := by decide +kernel
theorem dX4_takeWhales_169 : decode cX4_takeWhales 169 = .ok (.aload_n 1, 1) := by decide +kernel
theorem dX4_takeWhales_170 : decode cX4_takeWhales 170 = .ok (.getfield 90, 3) := by decide +kernel
theorem dX4_takeWhales_173 : decode cX4_takeWhales 173 = .ok (.iload 5, 2) := by decide +kernel
theorem dX4_takeWhales_175 : decode cX4_takeWhales 175 = .ok (.iaload, 1) := by decide +kernel
theorem dX4_takeWhales_176 : decode cX4_takeWhales 176 = .ok (.aload_n 0, 1) := by decide +kernel
theorem dX4_takeWhales_177 : decode cX4_takeWhales 177 = .ok (.getfield 9, 3) := by decide +kernel
theorem dX4_takeWhales_180 : decode cX4_takeWhales 180 = .ok (.iload 5, 2) := by decide +kernel
theorem dX4_takeWhales_182 : decode cX4_takeWhales 182 = .ok (.iaload, 1) := by decide +kernel
theorem dX4_takeWhales_183 : decode cX4_takeWhales 183 = .ok (.iadd, 1) := by decide +kernel
theorem dX4_takeWhales_184 : decode cX4_takeWhales 184 = .ok (.invokestatic 84, 3) := by decide +kernel
theorem dX4_takeWhales_187 : decode cX4_takeWhales 187 = .ok (.iastore, 1) := by decide +kernel
theorem dX4_takeWhales_188 : decode cX4_takeWhales 188 = .ok (.iinc 5 1, 3) := by decide +kernel
theorem dX4_takeWhales_191 : decode cX4_takeWhales 191 = .ok (.goto (-40), 3) := by decide +kernel
theorem dX4_takeWhales_194 : decode cX4_takeWhales 194 = .ok (.aload_n 1, 1) := by decide +kernel
theorem dX4_takeWhales_195 : decode cX4_takeWhales 195 = .ok (.getfield 57, 3) := by decide +kernel
theorem dX4_takeWhales_198 : decode cX4_takeWhales 198 = .ok (.iconst 0, 1) := by decide +kernel
theorem dX4_takeWhales_199 : decode cX4_takeWhales 199 = .ok (.dup2, 1) := by decide +kernel
theorem dX4_takeWhales_200 : decode cX4_takeWhales 200 = .ok (.iaload, 1) := by decide +kernel
theorem dX4_takeWhales_201 : decode cX4_takeWhales 201 = .ok (.iconst 1, 1) := by decide +kernel
theorem dX4_takeWhales_202 : decode cX4_takeWhales 202 = .ok (.iadd, 1) := by decide +kernel
theorem dX4_takeWhales_203 : decode cX4_takeWhales 203 = .ok (.iastore, 1) := by decide +kernel
theorem dX4_takeWhales_204 : decode cX4_takeWhales 204 = .ok (.iconst 0, 1) := by decide +kernel
theorem dX4_takeWhales_205 : decode cX4_takeWhales 205 = .ok (.ireturn, 1) := by decide +kernel
theorem dX4_runAway_0 : decode cX4_runAway 0 = .ok (.aload_n 1, 1) := by decide +kernel
theorem dX4_runAway_1 : decode cX4_runAway 1 = .ok (.invokevirtual 63, 3) := by decide +kernel
theorem dX4_runAway_4 : decode cX4_runAway 4 = .ok (.istore_n 2, 1) := by decide +kernel
theorem dX4_runAway_5 : decode cX4_runAway 5 = .ok (.iconst 0, 1) := by decide +kernel
theorem dX4_runAway_6 : decode cX4_runAway 6 = .ok (.istore_n 3, 1) := by decide +kernel
theorem dX4_runAway_7 : decode cX4_runAway 7 = .ok (.iconst 0, 1) := by decide +kernel
theorem dX4_runAway_8 : decode cX4_runAway 8 = .ok (.istore 4, 2) := by decide +kernel
theorem dX4_runAway_10 : decode cX4_runAway 10 = .ok (.iload 4, 2) := by decide +kernel
theorem dX4_runAway_12 : decode cX4_runAway 12 = .ok (.aload_n 1, 1) := by decide +kernel
theorem dX4_runAway_13 : decode cX4_runAway 13 = .ok (.getfield 72, 3) := by decide +kernel
theorem dX4_runAway_16 : decode cX4_runAway 16 = .ok (.if_icmp .ge 46, 3) := by decide +kernel
theorem dX4_runAway_19 : decode cX4_runAway 19 = .ok (.aload_n 1, 1) := by decide +kernel
theorem dX4_runAway_20 : decode cX4_runAway 20 = .ok (.iload 4, 2) := by decide +kernel
theorem dX4_runAway_22 : decode cX4_runAway 22 = .ok (.invokevirtual 75, 3) := by decide +kernel
theorem dX4_runAway_25 : decode cX4_runAway 25 = .ok (.ifCond .eq 31, 3) := by decide +kernel
theorem dX4_runAway_28 : decode cX4_runAway 28 = .ok (.aload_n 0, 1) := by decide +kernel
theorem dX4_runAway_29 : decode cX4_runAway 29 = .ok (.getfield 15, 3) := by decide +kernel
theorem dX4_runAway_32 : decode cX4_runAway 32 = .ok (.aload_n 1, 1) := by decide +kernel
theorem dX4_runAway_33 : decode cX4_runAway 33 = .ok (.iload 4, 2) := by decide +kernel
theorem dX4_runAway_35 : decode cX4_runAway 35 = .ok (.aload_n 1, 1) := by decide +kernel
theorem dX4_runAway_36 : decode cX4_runAway 36 = .ok (.getfield 93, 3) := by decide +kernel
theorem dX4_runAway_39 : decode cX4_runAway 39 = .ok (.iload 4, 2) := by decide +kernel
theorem dX4_runAway_41 : decode cX4_runAway 41 = .ok (.iaload, 1) := by decide +kernel
theorem dX4_runAway_42 : decode cX4_runAway 42 = .ok (.iload_n 2, 1) := by decide +kernel
theorem dX4_runAway_43 : decode cX4_runAway 43 = .ok (.invokevirtual 96, 3) := by decide +kernel
theorem dX4_runAway_46 : decode cX4_runAway 46 = .ok (.ifCond .eq 10, 3) := by decide +kernel
theorem dX4_runAway_49 : decode cX4_runAway 49 = .ok (.iload_n 3, 1) := by decide +kernel
theorem dX4_runAway_50 : decode cX4_runAway 50 = .ok (.iconst 1, 1) := by decide +kernel
theorem dX4_runAway_51 : decode cX4_runAway 51 = .ok (.iload 4, 2) := by decide +kernel
theorem dX4_runAway_53 : decode cX4_runAway 53 = .ok (.ishl, 1) := by decide +kernel
theorem dX4_runAway_54 : decode cX4_runAway 54 = .ok (.ior, 1) := by decide +kernel
theorem dX4_runAway_55 : decode cX4_runAway 55 = .ok (.istore_n 3, 1) := by decide +kernel
theorem dX4_runAway_56 : decode cX4_runAway 56 = .ok (.iinc 4 1, 3) := by decide +kernel
theorem dX4_runAway_59 : decode cX4_runAway 59 = .ok (.goto (-49), 3) := by decide +kernel
theorem dX4_runAway_62 : decode cX4_runAway 62 = .ok (.aload_n 1, 1) := by decide +kernel
theorem dX4_runAway_63 : decode cX4_runAway 63 = .ok (.dup, 1) := by decide +kernel
theorem dX4_runAway_64 : decode cX4_runAway 64 = .ok (.getfield 53, 3) := by decide +kernel
theorem dX4_runAway_67 : decode cX4_runAway 67 = .ok (.iload_n 3, 1) := by decide +kernel
theorem dX4_runAway_68 : decode cX4_runAway 68 = .ok (.iconst (-1), 1) := by decide +kernel
theorem dX4_runAway_69 : decode cX4_runAway 69 = .ok (.ixor, 1) := by decide +kernel
theorem dX4_runAway_70 : decode cX4_runAway 70 = .ok (.iand, 1) := by decide +kernel
theorem dX4_runAway_71 : decode cX4_runAway 71 = .ok (.putfield 53, 3) := by decide +kernel
theorem dX4_runAway_74 : decode cX4_runAway 74 = .ok (.iload_n 3, 1) := by decide +kernel
theorem dX4_runAway_75 : decode cX4_runAway 75 = .ok (.invokestatic 100, 3) := by decide +kernel
theorem dX4_runAway_78 : decode cX4_runAway 78 = .ok (.ireturn, 1) := by decide +kernel
theorem dX4_sellOff_0 : decode cX4_sellOff 0 = .ok (.iload_n 2, 1) := by decide +kernel
theorem dX4_sellOff_1 : decode cX4_sellOff 1 = .ok (.iconst 1, 1) := by decide +kernel
theorem dX4_sellOff_2 : decode cX4_sellOff 2 = .ok (.if_icmp .lt 10, 3) := by decide +kernel
theorem dX4_sellOff_5 : decode cX4_sellOff 5 = .ok (.iload_n 2, 1) := by decide +kernel
theorem dX4_sellOff_6 : decode cX4_sellOff 6 = .ok (.sipush 999, 3) := by decide +kernel
theorem dX4_sellOff_9 : decode cX4_sellOff 9 = .ok (.if_icmp .le 5, 3) := by decide +kernel
theorem dX4_sellOff_12 : decode cX4_sellOff 12 = .ok (.iconst (-1), 1) := by decide +kernel
theorem dX4_sellOff_13 : decode cX4_sellOff 13 = .ok (.ireturn, 1) := by decide +kernel
theorem dX4_sellOff_14 : decode cX4_sellOff 14 = .ok (.iload_n 2, 1) := by decide +kernel
theorem dX4_sellOff_15 : decode cX4_sellOff 15 = .ok (.aload_n 1, 1) := by decide +kernel
theorem dX4_sellOff_16 : decode cX4_sellOff 16 = .ok (.getfield 81, 3) := by decide +kernel
theorem dX4_sellOff_19 : decode cX4_sellOff 19 = .ok (.if_icmp .le 6, 3) := by decide +kernel
theorem dX4_sellOff_22 : decode cX4_sellOff 22 = .ok (.bipush (-3), 2) := by decide +kernel
theorem dX4_sellOff_24 : decode cX4_sellOff 24 = .ok (.ireturn, 1) := by decide +kernel
theorem dX4_sellOff_25 : decode cX4_sellOff 25 = .ok (.aload_n 1, 1) := by decide +kernel
theorem dX4_sellOff_26 : decode cX4_sellOff 26 = .ok (.dup, 1) := by decide +kernel
theorem dX4_sellOff_27 : decode cX4_sellOff 27 = .ok (.getfield 81, 3) := by decide +kernel
theorem dX4_sellOff_30 : decode cX4_sellOff 30 = .ok (.iload_n 2, 1) := by decide +kernel
theorem dX4_sellOff_31 : decode cX4_sellOff 31 = .ok (.isub, 1) := by decide +kernel
theorem dX4_sellOff_32 : decode cX4_sellOff 32 = .ok (.putfield 81, 3) := by decide +kernel
theorem dX4_sellOff_35 : decode cX4_sellOff 35 = .ok (.aload_n 1, 1) := by decide +kernel
theorem dX4_sellOff_36 : decode cX4_sellOff 36 = .ok (.ldc 106, 2) := by decide +kernel
theorem dX4_sellOff_38 : decode cX4_sellOff 38 = .ok (.aload_n 1, 1) := by decide +kernel
theorem dX4_sellOff_39 : decode cX4_sellOff 39 = .ok (.getfield 107, 3) := by decide +kernel
theorem dX4_sellOff_42 : decode cX4_sellOff 42 = .ok (.iload_n 2, 1) := by decide +kernel
theorem dX4_sellOff_43 : decode cX4_sellOff 43 = .ok (.aload_n 1, 1) := by decide +kernel
theorem dX4_sellOff_44 : decode cX4_sellOff 44 = .ok (.aload_n 1, 1) := by decide +kernel
theorem dX4_sellOff_45 : decode cX4_sellOff 45 = .ok (.getfield 57, 3) := by decide +kernel
theorem dX4_sellOff_48 : decode cX4_sellOff 48 = .ok (.iconst 0, 1) := by decide +kernel
theorem dX4_sellOff_49 : decode cX4_sellOff 49 = .ok (.iaload, 1) := by decide +kernel
theorem dX4_sellOff_50 : decode cX4_sellOff 50 = .ok (.invokevirtual 110, 3) := by decide +kernel
theorem dX4_sellOff_53 : decode cX4_sellOff 53 = .ok (.imul, 1) := by decide +kernel
theorem dX4_sellOff_54 : decode cX4_sellOff 54 = .ok (.iadd, 1) := by decide +kernel
theorem dX4_sellOff_55 : decode cX4_sellOff 55 = .ok (.invokestatic 84, 3) := by decide +kernel
theorem dX4_sellOff_58 : decode cX4_sellOff 58 = .ok (.putfield 107, 3) := by decide +kernel
theorem dX4_sellOff_61 : decode cX4_sellOff 61 = .ok (.aload_n 1, 1) := by decide +kernel
theorem dX4_sellOff_62 : decode cX4_sellOff 62 = .ok (.getfield 107, 3) := by decide +kernel
theorem dX4_sellOff_65 : decode cX4_sellOff 65 = .ok (.ireturn, 1) := by decide +kernel
theorem dX4_payOut_0 : decode cX4_payOut 0 = .ok (.iload_n 3, 1) := by decide +kernel
theorem dX4_payOut_1 : decode cX4_payOut 1 = .ok (.iconst 1, 1) := by decide +kernel
theorem dX4_payOut_2 : decode cX4_payOut 2 = .ok (.if_icmp .lt 10, 3) := by decide +kernel
theorem dX4_payOut_5 : decode cX4_payOut 5 = .ok (.iload_n 3, 1) := by decide +kernel
theorem dX4_payOut_6 : decode cX4_payOut 6 = .ok (.sipush 9999, 3) := by decide +kernel
theorem dX4_payOut_9 : decode cX4_payOut 9 = .ok (.if_icmp .le 5, 3) := by decide +kernel
theorem dX4_payOut_12 : decode cX4_payOut 12 = .ok (.iconst (-1), 1) := by decide +kernel
theorem dX4_payOut_13 : decode cX4_payOut 13 = .ok (.ireturn, 1) := by decide +kernel
theorem dX4_payOut_14 : decode cX4_payOut 14 = .ok (.aload_n 1, 1) := by decide +kernel
theorem dX4_payOut_15 : decode cX4_payOut 15 = .ok (.iload_n 2, 1) := by decide +kernel
theorem dX4_payOut_16 : decode cX4_payOut 16 = .ok (.invokevirtual 113, 3) := by decide +kernel
theorem dX4_payOut_19 : decode cX4_payOut 19 = .ok (.ifCond .ne 6, 3) := by decide +kernel
theorem dX4_payOut_22 : decode cX4_payOut 22 = .ok (.bipush (-2), 2) := by decide +kernel
theorem dX4_payOut_24 : decode cX4_payOut 24 = .ok (.ireturn, 1) := by decide +kernel
theorem dX4_payOut_25 : decode cX4_payOut 25 = .ok (.aload_n 1, 1) := by decide +kernel
theorem dX4_payOut_26 : decode cX4_payOut 26 = .ok (.iload_n 2, 1) := by decide +kernel
theorem dX4_payOut_27 : decode cX4_payOut 27 = .ok (.invokevirtual 75, 3) := by decide +kernel
theorem dX4_payOut_30 : decode cX4_payOut 30 = .ok (.ifCond .eq 11, 3) := by decide +kernel
theorem dX4_payOut_33 : decode cX4_payOut 33 = .ok (.iload_n 3, 1) := by decide +kernel
theorem dX4_payOut_34 : decode cX4_payOut 34 = .ok (.aload_n 1, 1) := by decide +kernel
theorem dX4_payOut_35 : decode cX4_payOut 35 = .ok (.getfield 107, 3) := by decide +kernel
theorem dX4_payOut_38 : decode cX4_payOut 38 = .ok (.if_icmp .le 6, 3) := by decide +kernel
theorem dX4_payOut_41 : decode cX4_payOut 41 = .ok (.bipush (-3), 2) := by decide +kernel
theorem dX4_payOut_43 : decode cX4_payOut 43 = .ok (.ireturn, 1) := by decide +kernel
theorem dX4_payOut_44 : decode cX4_payOut 44 = .ok (.aload_n 1, 1) := by decide +kernel
theorem dX4_payOut_45 : decode cX4_payOut 45 = .ok (.dup, 1) := by decide +kernel
theorem dX4_payOut_46 : decode cX4_payOut 46 = .ok (.getfield 107, 3) := by decide +kernel
theorem dX4_payOut_49 : decode cX4_payOut 49 = .ok (.iload_n 3, 1) := by decide +kernel
theorem dX4_payOut_50 : decode cX4_payOut 50 = .ok (.isub, 1) := by decide +kernel
theorem dX4_payOut_51 : decode cX4_payOut 51 = .ok (.putfield 107, 3) := by decide +kernel
theorem dX4_payOut_54 : decode cX4_payOut 54 = .ok (.aload_n 1, 1) := by decide +kernel
theorem dX4_payOut_55 : decode cX4_payOut 55 = .ok (.getfield 90, 3) := by decide +kernel
theorem dX4_payOut_58 : decode cX4_payOut 58 = .ok (.iload_n 2, 1) := by decide +kernel
theorem dX4_payOut_59 : decode cX4_payOut 59 = .ok (.sipush 9999, 3) := by decide +kernel
theorem dX4_payOut_62 : decode cX4_payOut 62 = .ok (.aload_n 1, 1) := by decide +kernel
theorem dX4_payOut_63 : decode cX4_payOut 63 = .ok (.getfield 90, 3) := by decide +kernel
theorem dX4_payOut_66 : decode cX4_payOut 66 = .ok (.iload_n 2, 1) := by decide +kernel
theorem dX4_payOut_67 : decode cX4_payOut 67 = .ok (.iaload, 1) := by decide +kernel
theorem dX4_payOut_68 : decode cX4_payOut 68 = .ok (.iload_n 3, 1) := by decide +kernel
theorem dX4_payOut_69 : decode cX4_payOut 69 = .ok (.iadd, 1) := by decide +kernel
theorem dX4_payOut_70 : decode cX4_payOut 70 = .ok (.invokestatic 84, 3) := by decide +kernel
theorem dX4_payOut_73 : decode cX4_payOut 73 = .ok (.iastore, 1) := by decide +kernel
theorem dX4_payOut_74 : decode cX4_payOut 74 = .ok (.aload_n 1, 1) := by decide +kernel
theorem dX4_payOut_75 : decode cX4_payOut 75 = .ok (.getfield 90, 3) := by decide +kernel
theorem dX4_payOut_78 : decode cX4_payOut 78 = .ok (.iload_n 2, 1) := by decide +kernel
theorem dX4_payOut_79 : decode cX4_payOut 79 = .ok (.iaload, 1) := by decide +kernel
theorem dX4_payOut_80 : decode cX4_payOut 80 = .ok (.ireturn, 1) := by decide +kernel
theorem dX4_putAshore_0 : decode cX4_putAshore 0 = .ok (.aload_n 1, 1) := by decide +kernel
theorem dX4_putAshore_1 : decode cX4_putAshore 1 = .ok (.iload_n 2, 1) := by decide +kernel
theorem dX4_putAshore_2 : decode cX4_putAshore 2 = .ok (.invokevirtual 113, 3) := by decide +kernel
theorem dX4_putAshore_5 : decode cX4_putAshore 5 = .ok (.ifCond .ne 6, 3) := by decide +kernel
theorem dX4_putAshore_8 : decode cX4_putAshore 8 = .ok (.bipush (-2), 2) := by decide +kernel
theorem dX4_putAshore_10 : decode cX4_putAshore 10 = .ok (.ireturn, 1) := by decide +kernel
theorem dX4_putAshore_11 : decode cX4_putAshore 11 = .ok (.aload_n 1, 1) := by decide +kernel
theorem dX4_putAshore_12 : decode cX4_putAshore 12 = .ok (.iload_n 2, 1) := by decide +kernel
theorem dX4_putAshore_13 : decode cX4_putAshore 13 = .ok (.invokevirtual 75, 3) := by decide +kernel
theorem dX4_putAshore_16 : decode cX4_putAshore 16 = .ok (.ifCond .ne 6, 3) := by decide +kernel
theorem dX4_putAshore_19 : decode cX4_putAshore 19 = .ok (.bipush (-3), 2) := by decide +kernel
theorem dX4_putAshore_21 : decode cX4_putAshore 21 = .ok (.ireturn, 1) := by decide +kernel
theorem dX4_putAshore_22 : decode cX4_putAshore 22 = .ok (.aload_n 1, 1) := by decide +kernel
theorem dX4_putAshore_23 : decode cX4_putAshore 23 = .ok (.dup, 1) := by decide +kernel
theorem dX4_putAshore_24 : decode cX4_putAshore 24 = .ok (.getfield 53, 3) := by decide +kernel
theorem dX4_putAshore_27 : decode cX4_putAshore 27 = .ok (.iconst 1, 1) := by decide +kernel
theorem dX4_putAshore_28 : decode cX4_putAshore 28 = .ok (.iload_n 2, 1) := by decide +kernel
theorem dX4_putAshore_29 : decode cX4_putAshore 29 = .ok (.ishl, 1) := by decide +kernel
theorem dX4_putAshore_30 : decode cX4_putAshore 30 = .ok (.iconst (-1), 1) := by decide +kernel
theorem dX4_putAshore_31 : decode cX4_putAshore 31 = .ok (.ixor, 1) := by decide +kernel
theorem dX4_putAshore_32 : decode cX4_putAshore 32 = .ok (.iand, 1) := by decide +kernel
theorem dX4_putAshore_33 : decode cX4_putAshore 33 = .ok (.putfield 53, 3) := by decide +kernel
theorem dX4_putAshore_36 : decode cX4_putAshore 36 = .ok (.aload_n 1, 1) := by decide +kernel
theorem dX4_putAshore_37 : decode cX4_putAshore 37 = .ok (.invokevirtual 63, 3) := by decide +kernel
theorem dX4_putAshore_40 : decode cX4_putAshore 40 = .ok (.ireturn, 1) := by decide +kernel
theorem dX4_drift_0 : decode cX4_drift 0 = .ok (.iload_n 2, 1) := by decide +kernel
theorem dX4_drift_1 : decode cX4_drift 1 = .ok (.istore 4, 2) := by decide +kernel
theorem dX4_drift_3 : decode cX4_drift 3 = .ok (.iconst 0, 1) := by decide +kernel
theorem dX4_drift_4 : decode cX4_drift 4 = .ok (.istore 5, 2) := by decide +kernel
theorem dX4_drift_6 : decode cX4_drift 6 = .ok (.iconst 0, 1) := by decide +kernel
theorem dX4_drift_7 : decode cX4_drift 7 = .ok (.istore 6, 2) := by decide +kernel
theorem dX4_drift_9 : decode cX4_drift 9 = .ok (.iload 6, 2) := by decide +kernel
theorem dX4_drift_11 : decode cX4_drift 11 = .ok (.iload_n 3, 1) := by decide +kernel
theorem dX4_drift_12 : decode cX4_drift 12 = .ok (.if_icmp .ge 109, 3) := by decide +kernel
theorem dX4_drift_15 : decode cX4_drift 15 = .ok (.aload_n 1, 1) := by decide +kernel
theorem dX4_drift_16 : decode cX4_drift 16 = .ok (.getfield 116, 3) := by decide +kernel
theorem dX4_drift_19 : decode cX4_drift 19 = .ok (.ifCond .le 102, 3) := by decide +kernel
theorem dX4_drift_22 : decode cX4_drift 22 = .ok (.aload_n 1, 1) := by decide +kernel
theorem dX4_drift_23 : decode cX4_drift 23 = .ok (.getfield 53, 3) := by decide +kernel
theorem dX4_drift_26 : decode cX4_drift 26 = .ok (.ifCond .eq 95, 3) := by decide +kernel
theorem dX4_drift_29 : decode cX4_drift 29 = .ok (.aload_n 1, 1) := by decide +kernel
theorem dX4_drift_30 : decode cX4_drift 30 = .ok (.getfield 57, 3) := by decide +kernel
theorem dX4_drift_33 : decode cX4_drift 33 = .ok (.iconst 0, 1) := by decide +kernel
theorem dX4_drift_34 : decode cX4_drift 34 = .ok (.iaload, 1) := by decide +kernel
theorem dX4_drift_35 : decode cX4_drift 35 = .ok (.bipush 71, 2) := by decide +kernel
theorem dX4_drift_37 : decode cX4_drift 37 = .ok (.if_icmp .lt 6, 3) := by decide +kernel
theorem dX4_drift_40 : decode cX4_drift 40 = .ok (.goto 81, 3) := by decide +kernel
theorem dX4_drift_43 : decode cX4_drift 43 = .ok (.iload 4, 2) := by decide +kernel
theorem dX4_drift_45 : decode cX4_drift 45 = .ok (.sipush 1103, 3) := by decide +kernel
theorem dX4_drift_48 : decode cX4_drift 48 = .ok (.imul, 1) := by decide +kernel
theorem dX4_drift_49 : decode cX4_drift 49 = .ok (.sipush 12345, 3) := by decide +kernel
theorem dX4_drift_52 : decode cX4_drift 52 = .ok (.iadd, 1) := by decide +kernel
theorem dX4_drift_53 : decode cX4_drift 53 = .ok (.ldc 119, 2) := by decide +kernel
theorem dX4_drift_55 : decode cX4_drift 55 = .ok (.irem, 1) := by decide +kernel
theorem dX4_drift_56 : decode cX4_drift 56 = .ok (.istore 4, 2) := by decide +kernel
theorem dX4_drift_58 : decode cX4_drift 58 = .ok (.iload 4, 2) := by decide +kernel
theorem dX4_drift_60 : decode cX4_drift 60 = .ok (.aload_n 1, 1) := by decide +kernel
theorem dX4_drift_61 : decode cX4_drift 61 = .ok (.getfield 116, 3) := by decide +kernel
theorem dX4_drift_64 : decode cX4_drift 64 = .ok (.irem, 1) := by decide +kernel
theorem dX4_drift_65 : decode cX4_drift 65 = .ok (.istore 7, 2) := by decide +kernel
theorem dX4_drift_67 : decode cX4_drift 67 = .ok (.iload 4, 2) := by decide +kernel
theorem dX4_drift_69 : decode cX4_drift 69 = .ok (.sipush 1103, 3) := by decide +kernel
theorem dX4_drift_72 : decode cX4_drift 72 = .ok (.imul, 1) := by decide +kernel
theorem dX4_drift_73 : decode cX4_drift 73 = .ok (.sipush 12345, 3) := by decide +kernel
theorem dX4_drift_76 : decode cX4_drift 76 = .ok (.iadd, 1) := by decide +kernel
theorem dX4_drift_77 : decode cX4_drift 77 = .ok (.ldc 119, 2) := by decide +kernel
theorem dX4_drift_79 : decode cX4_drift 79 = .ok (.irem, 1) := by decide +kernel
theorem dX4_drift_80 : decode cX4_drift 80 = .ok (.istore 4, 2) := by decide +kernel
theorem dX4_drift_82 : decode cX4_drift 82 = .ok (.aload_n 1, 1) := by decide +kernel
theorem dX4_drift_83 : decode cX4_drift 83 = .ok (.iload 7, 2) := by decide +kernel
theorem dX4_drift_85 : decode cX4_drift 85 = .ok (.iload 4, 2) := by decide +kernel
theorem dX4_drift_87 : decode cX4_drift 87 = .ok (.bipush 10, 2) := by decide +kernel
theorem dX4_drift_89 : decode cX4_drift 89 = .ok (.irem, 1) := by decide +kernel
theorem dX4_drift_90 : decode cX4_drift 90 = .ok (.invokestatic 120, 3) := by decide +kernel
theorem dX4_drift_93 : decode cX4_drift 93 = .ok (.istore 8, 2) := by decide +kernel
theorem dX4_drift_95 : decode cX4_drift 95 = .ok (.aload_n 0, 1) := by decide +kernel
theorem dX4_drift_96 : decode cX4_drift 96 = .ok (.aload_n 1, 1) := by decide +kernel
theorem dX4_drift_97 : decode cX4_drift 97 = .ok (.iload 7, 2) := by decide +kernel
theorem dX4_drift_99 : decode cX4_drift 99 = .ok (.iload 8, 2) := by decide +kernel
theorem dX4_drift_101 : decode cX4_drift 101 = .ok (.invokevirtual 25, 3) := by decide +kernel
theorem dX4_drift_104 : decode cX4_drift 104 = .ok (.pop, 1) := by decide +kernel
theorem dX4_drift_105 : decode cX4_drift 105 = .ok (.iload 5, 2) := by decide +kernel
theorem dX4_drift_107 : decode cX4_drift 107 = .ok (.aload_n 0, 1) := by decide +kernel
theorem dX4_drift_108 : decode cX4_drift 108 = .ok (.aload_n 1, 1) := by decide +kernel
theorem dX4_drift_109 : decode cX4_drift 109 = .ok (.invokevirtual 29, 3) := by decide +kernel
theorem dX4_drift_112 : decode cX4_drift 112 = .ok (.iadd, 1) := by decide +kernel
theorem dX4_drift_113 : decode cX4_drift 113 = .ok (.istore 5, 2) := by decide +kernel
theorem dX4_drift_115 : decode cX4_drift 115 = .ok (.iinc 6 1, 3) := by decide +kernel
theorem dX4_drift_118 : decode cX4_drift 118 = .ok (.goto (-109), 3) := by decide +kernel
theorem dX4_drift_121 : decode cX4_drift 121 = .ok (.iload 5, 2) := by decide +kernel
theorem dX4_drift_123 : decode cX4_drift 123 = .ok (.ireturn, 1) := by decide +kernel
theorem dX4_takenBy_0 : decode cX4_takenBy 0 = .ok (.iconst 0, 1) := by decide +kernel
theorem dX4_takenBy_1 : decode cX4_takenBy 1 = .ok (.istore_n 3, 1) := by decide +kernel
theorem dX4_takenBy_2 : decode cX4_takenBy 2 = .ok (.iconst 3, 1) := by decide +kernel
theorem dX4_takenBy_3 : decode cX4_takenBy 3 = .ok (.istore 4, 2) := by decide +kernel
theorem dX4_takenBy_5 : decode cX4_takenBy 5 = .ok (.iload 4, 2) := by decide +kernel
theorem dX4_takenBy_7 : decode cX4_takenBy 7 = .ok (.ifCond .le 36, 3) := by decide +kernel
theorem dX4_takenBy_10 : decode cX4_takenBy 10 = .ok (.iload_n 3, 1) := by decide +kernel
theorem dX4_takenBy_11 : decode cX4_takenBy 11 = .ok (.aload_n 0, 1) := by decide +kernel
theorem dX4_takenBy_12 : decode cX4_takenBy 12 = .ok (.iload_n 1, 1) := by decide +kernel
theorem dX4_takenBy_13 : decode cX4_takenBy 13 = .ok (.iload 4, 2) := by decide +kernel
theorem dX4_takenBy_15 : decode cX4_takenBy 15 = .ok (.invokevirtual 123, 3) := by decide +kernel
theorem dX4_takenBy_18 : decode cX4_takenBy 18 = .ok (.iadd, 1) := by decide +kernel
theorem dX4_takenBy_19 : decode cX4_takenBy 19 = .ok (.istore_n 3, 1) := by decide +kernel
theorem dX4_takenBy_20 : decode cX4_takenBy 20 = .ok (.iload_n 2, 1) := by decide +kernel
theorem dX4_takenBy_21 : decode cX4_takenBy 21 = .ok (.iload_n 3, 1) := by decide +kernel
theorem dX4_takenBy_22 : decode cX4_takenBy 22 = .ok (.if_icmp .ge 15, 3) := by decide +kernel
theorem dX4_takenBy_25 : decode cX4_takenBy 25 = .ok (.iload 4, 2) := by decide +kernel
theorem dX4_takenBy_27 : decode cX4_takenBy 27 = .ok (.aload_n 0, 1) := by decide +kernel
theorem dX4_takenBy_28 : decode cX4_takenBy 28 = .ok (.getfield 60, 3) := by decide +kernel
theorem dX4_takenBy_31 : decode cX4_takenBy 31 = .ok (.iload_n 1, 1) := by decide +kernel
theorem dX4_takenBy_32 : decode cX4_takenBy 32 = .ok (.iaload, 1) := by decide +kernel
theorem dX4_takenBy_33 : decode cX4_takenBy 33 = .ok (.invokestatic 84, 3) := by decide +kernel
theorem dX4_takenBy_36 : decode cX4_takenBy 36 = .ok (.ireturn, 1) := by decide +kernel
theorem dX4_takenBy_37 : decode cX4_takenBy 37 = .ok (.iinc 4 (-1), 3) := by decide +kernel
theorem dX4_takenBy_40 : decode cX4_takenBy 40 = .ok (.goto (-35), 3) := by decide +kernel
theorem dX4_takenBy_43 : decode cX4_takenBy 43 = .ok (.iconst 0, 1) := by decide +kernel
theorem dX4_takenBy_44 : decode cX4_takenBy 44 = .ok (.ireturn, 1) := by decide +kernel
theorem dX5_init_0 : decode cX5_init 0 = .ok (.aload_n 0, 1) := by decide +kernel
theorem dX5_init_1 : decode cX5_init 1 = .ok (.invokespecial 3, 3) := by decide +kernel
theorem dX5_init_4 : decode cX5_init 4 = .ok (.aload_n 0, 1) := by decide +kernel
theorem dX5_init_5 : decode cX5_init 5 = .ok (.sipush 1000, 3) := by decide +kernel
theorem dX5_init_8 : decode cX5_init 8 = .ok (.newarray .long, 2) := by decide +kernel
theorem dX5_init_10 : decode cX5_init 10 = .ok (.putfield 9, 3) := by decide +kernel
theorem dX5_init_13 : decode cX5_init 13 = .ok (.aload_n 0, 1) := by decide +kernel
theorem dX5_init_14 : decode cX5_init 14 = .ok (.sipush 1000, 3) := by decide +kernel
theorem dX5_init_17 : decode cX5_init 17 = .ok (.newarray .int, 2) := by decide +kernel
theorem dX5_init_19 : decode cX5_init 19 = .ok (.putfield 15, 3) := by decide +kernel
theorem dX5_init_22 : decode cX5_init 22 = .ok (.aload_n 0, 1) := by decide +kernel
theorem dX5_init_23 : decode cX5_init 23 = .ok (.iconst 4, 1) := by decide +kernel
theorem dX5_init_24 : decode cX5_init 24 = .ok (.newarray .int, 2) := by decide +kernel
theorem dX5_init_26 : decode cX5_init 26 = .ok (.putfield 19, 3) := by decide +kernel
theorem dX5_init_29 : decode cX5_init 29 = .ok (.aload_n 0, 1) := by decide +kernel
theorem dX5_init_30 : decode cX5_init 30 = .ok (.bipush 73, 2) := by decide +kernel
theorem dX5_init_32 : decode cX5_init 32 = .ok (.newarray .long, 2) := by decide +kernel
theorem dX5_init_34 : decode cX5_init 34 = .ok (.putfield 22, 3) := by decide +kernel
theorem dX5_init_37 : decode cX5_init 37 = .ok (.aload_n 0, 1) := by decide +kernel
theorem dX5_init_38 : decode cX5_init 38 = .ok (.aload_n 1, 1) := by decide +kernel
theorem dX5_init_39 : decode cX5_init 39 = .ok (.putfield 25, 3) := by decide +kernel
theorem dX5_init_42 : decode cX5_init 42 = .ok (.return_, 1) := by decide +kernel
theorem dX5_bestOf_0 : decode cX5_bestOf 0 = .ok (.iload_n 2, 1) := by decide +kernel
theorem dX5_bestOf_1 : decode cX5_bestOf 1 = .ok (.bipush 71, 2) := by decide +kernel
theorem dX5_bestOf_3 : decode cX5_bestOf 3 = .ok (.aload_n 1, 1) := by decide +kernel
theorem dX5_bestOf_4 : decode cX5_bestOf 4 = .ok (.getfield 29, 3) := by decide +kernel
theorem dX5_bestOf_7 : decode cX5_bestOf 7 = .ok (.iconst 0, 1) := by decide +kernel
theorem dX5_bestOf_8 : decode cX5_bestOf 8 = .ok (.iaload, 1) := by decide +kernel
theorem dX5_bestOf_9 : decode cX5_bestOf 9 = .ok (.isub, 1) := by decide +kernel
theorem dX5_bestOf_10 : decode cX5_bestOf 10 = .ok (.invokestatic 34, 3) := by decide +kernel
theorem dX5_bestOf_13 : decode cX5_bestOf 13 = .ok (.istore 4, 2) := by decide +kernel
theorem dX5_bestOf_15 : decode cX5_bestOf 15 = .ok (.iconst 0, 1) := by decide +kernel
theorem dX5_bestOf_16 : decode cX5_bestOf 16 = .ok (.istore 5, 2) := by decide +kernel
theorem dX5_bestOf_18 : decode cX5_bestOf 18 = .ok (.iload 5, 2) := by decide +kernel
theorem dX5_bestOf_20 : decode cX5_bestOf 20 = .ok (.aload_n 1, 1) := by decide +kernel
theorem dX5_bestOf_21 : decode cX5_bestOf 21 = .ok (.getfield 40, 3) := by decide +kernel
theorem dX5_bestOf_24 : decode cX5_bestOf 24 = .ok (.if_icmp .ge 30, 3) := by decide +kernel
theorem dX5_bestOf_27 : decode cX5_bestOf 27 = .ok (.aload_n 0, 1) := by decide +kernel
theorem dX5_bestOf_28 : decode cX5_bestOf 28 = .ok (.getfield 19, 3) := by decide +kernel
theorem dX5_bestOf_31 : decode cX5_bestOf 31 = .ok (.iload 5, 2) := by decide +kernel
theorem dX5_bestOf_33 : decode cX5_bestOf 33 = .ok (.aload_n 0, 1) := by decide +kernel
theorem dX5_bestOf_34 : decode cX5_bestOf 34 = .ok (.getfield 25, 3) := by decide +kernel
theorem dX5_bestOf_37 : decode cX5_bestOf 37 = .ok (.aload_n 1, 1) := by decide +kernel
theorem dX5_bestOf_38 : decode cX5_bestOf 38 = .ok (.iload 5, 2) := by decide +kernel
theorem dX5_bestOf_40 : decode cX5_bestOf 40 = .ok (.aload_n 1, 1) := by decide +kernel
theorem dX5_bestOf_41 : decode cX5_bestOf 41 = .ok (.invokevirtual 44, 3) := by decide +kernel
theorem dX5_bestOf_44 : decode cX5_bestOf 44 = .ok (.invokevirtual 48, 3) := by decide +kernel
theorem dX5_bestOf_47 : decode cX5_bestOf 47 = .ok (.iastore, 1) := by decide +kernel
theorem dX5_bestOf_48 : decode cX5_bestOf 48 = .ok (.iinc 5 1, 3) := by decide +kernel
theorem dX5_bestOf_51 : decode cX5_bestOf 51 = .ok (.goto (-33), 3) := by decide +kernel
theorem dX5_bestOf_54 : decode cX5_bestOf 54 = .ok (.aload_n 0, 1) := by decide +kernel
theorem dX5_bestOf_55 : decode cX5_bestOf 55 = .ok (.aload_n 1, 1) := by decide +kernel
theorem dX5_bestOf_56 : decode cX5_bestOf 56 = .ok (.invokevirtual 54, 3) := by decide +kernel
theorem dX5_bestOf_59 : decode cX5_bestOf 59 = .ok (.iload 4, 2) := by decide +kernel
theorem dX5_bestOf_61 : decode cX5_bestOf 61 = .ok (.istore 5, 2) := by decide +kernel
theorem dX5_bestOf_63 : decode cX5_bestOf 63 = .ok (.iload 5, 2) := by decide +kernel
theorem dX5_bestOf_65 : decode cX5_bestOf 65 = .ok (.ifCond .le 28, 3) := by decide +kernel
theorem dX5_bestOf_68 : decode cX5_bestOf 68 = .ok (.aload_n 0, 1) := by decide +kernel
theorem dX5_bestOf_69 : decode cX5_bestOf 69 = .ok (.aload_n 1, 1) := by decide +kernel
theorem dX5_bestOf_70 : decode cX5_bestOf 70 = .ok (.iload 5, 2) := by decide +kernel
theorem dX5_bestOf_72 : decode cX5_bestOf 72 = .ok (.iload 5, 2) := by decide +kernel
theorem dX5_bestOf_74 : decode cX5_bestOf 74 = .ok (.iload 4, 2) := by decide +kernel
theorem dX5_bestOf_76 : decode cX5_bestOf 76 = .ok (.if_icmp .ne 7, 3) := by decide +kernel
theorem dX5_bestOf_79 : decode cX5_bestOf 79 = .ok (.iconst 1, 1) := by decide +kernel
theorem dX5_bestOf_80 : decode cX5_bestOf 80 = .ok (.goto 4, 3) := by decide +kernel
theorem dX5_bestOf_83 : decode cX5_bestOf 83 = .ok (.iconst 0, 1) := by decide +kernel
theorem dX5_bestOf_84 : decode cX5_bestOf 84 = .ok (.invokevirtual 58, 3) := by decide +kernel
theorem dX5_bestOf_87 : decode cX5_bestOf 87 = .ok (.iinc 5 (-1), 3) := by decide +kernel
theorem dX5_bestOf_90 : decode cX5_bestOf 90 = .ok (.goto (-27), 3) := by decide +kernel
theorem dX5_bestOf_93 : decode cX5_bestOf 93 = .ok (.aload_n 1, 1) := by decide +kernel
theorem dX5_bestOf_94 : decode cX5_bestOf 94 = .ok (.aload_n 1, 1) := by decide +kernel
theorem dX5_bestOf_95 : decode cX5_bestOf 95 = .ok (.getfield 62, 3) := by decide +kernel
theorem dX5_bestOf_98 : decode cX5_bestOf 98 = .ok (.iconst 0, 1) := by decide +kernel
theorem dX5_bestOf_99 : decode cX5_bestOf 99 = .ok (.invokestatic 65, 3) := by decide +kernel
theorem dX5_bestOf_102 : decode cX5_bestOf 102 = .ok (.lstore 5, 2) := by decide +kernel
theorem dX5_bestOf_104 : decode cX5_bestOf 104 = .ok (.bipush 100, 2) := by decide +kernel
theorem dX5_bestOf_106 : decode cX5_bestOf 106 = .ok (.istore 7, 2) := by decide +kernel
theorem dX5_bestOf_108 : decode cX5_bestOf 108 = .ok (.iconst 0, 1) := by decide +kernel
theorem dX5_bestOf_109 : decode cX5_bestOf 109 = .ok (.istore 8, 2) := by decide +kernel
theorem dX5_bestOf_111 : decode cX5_bestOf 111 = .ok (.iload 4, 2) := by decide +kernel
theorem dX5_bestOf_113 : decode cX5_bestOf 113 = .ok (.ifCond .le 47, 3) := by decide +kernel
theorem dX5_bestOf_116 : decode cX5_bestOf 116 = .ok (.iload 8, 2) := by decide +kernel
theorem dX5_bestOf_118 : decode cX5_bestOf 118 = .ok (.aload_n 1, 1) := by decide +kernel
theorem dX5_bestOf_119 : decode cX5_bestOf 119 = .ok (.getfield 40, 3) := by decide +kernel
theorem dX5_bestOf_122 : decode cX5_bestOf 122 = .ok (.if_icmp .ge 38, 3) := by decide +kernel
theorem dX5_bestOf_125 : decode cX5_bestOf 125 = .ok (.aload_n 0, 1) := by decide +kernel
theorem dX5_bestOf_126 : decode cX5_bestOf 126 = .ok (.aload_n 1, 1) := by decide +kernel
theorem dX5_bestOf_127 : decode cX5_bestOf 127 = .ok (.iload 8, 2) := by decide +kernel
theorem dX5_bestOf_129 : decode cX5_bestOf 129 = .ok (.aload_n 1, 1) := by decide +kernel
theorem dX5_bestOf_130 : decode cX5_bestOf 130 = .ok (.getfield 62, 3) := by decide +kernel
theorem dX5_bestOf_133 : decode cX5_bestOf 133 = .ok (.invokevirtual 69, 3) := by decide +kernel
theorem dX5_bestOf_136 : decode cX5_bestOf 136 = .ok (.lstore 9, 2) := by decide +kernel
theorem dX5_bestOf_138 : decode cX5_bestOf 138 = .ok (.lload 9, 2) := by decide +kernel
theorem dX5_bestOf_140 : decode cX5_bestOf 140 = .ok (.lload 5, 2) := by decide +kernel
theorem dX5_bestOf_142 : decode cX5_bestOf 142 = .ok (.lcmp, 1) := by decide +kernel
theorem dX5_bestOf_143 : decode cX5_bestOf 143 = .ok (.ifCond .le 11, 3) := by decide +kernel
theorem dX5_bestOf_146 : decode cX5_bestOf 146 = .ok (.lload 9, 2) := by decide +kernel
theorem dX5_bestOf_148 : decode cX5_bestOf 148 = .ok (.lstore 5, 2) := by decide +kernel
theorem dX5_bestOf_150 : decode cX5_bestOf 150 = .ok (.iload 8, 2) := by decide +kernel
theorem dX5_bestOf_152 : decode cX5_bestOf 152 = .ok (.istore 7, 2) := by decide +kernel
theorem dX5_bestOf_154 : decode cX5_bestOf 154 = .ok (.iinc 8 1, 3) := by decide +kernel
theorem dX5_bestOf_157 : decode cX5_bestOf 157 = .ok (.goto (-46), 3) := by decide +kernel
theorem dX5_bestOf_160 : decode cX5_bestOf 160 = .ok (.iload_n 3, 1) := by decide +kernel
theorem dX5_bestOf_161 : decode cX5_bestOf 161 = .ok (.ifCond .eq 9, 3) := by decide +kernel
theorem dX5_bestOf_164 : decode cX5_bestOf 164 = .ok (.iload 7, 2) := by decide +kernel
theorem dX5_bestOf_166 : decode cX5_bestOf 166 = .ok (.i2l, 1) := by decide +kernel
theorem dX5_bestOf_167 : decode cX5_bestOf 167 = .ok (.goto 5, 3) := by decide +kernel
theorem dX5_bestOf_170 : decode cX5_bestOf 170 = .ok (.lload 5, 2) := by decide +kernel
theorem dX5_bestOf_172 : decode cX5_bestOf 172 = .ok (.lreturn, 1) := by decide +kernel
theorem dX5_reach_0 : decode cX5_reach 0 = .ok (.aload_n 1, 1) := by decide +kernel
theorem dX5_reach_1 : decode cX5_reach 1 = .ok (.getfield 29, 3) := by decide +kernel
theorem dX5_reach_4 : decode cX5_reach 4 = .ok (.iconst 1, 1) := by decide +kernel
theorem dX5_reach_5 : decode cX5_reach 5 = .ok (.iaload, 1) := by decide +kernel
theorem dX5_reach_6 : decode cX5_reach 6 = .ok (.istore_n 2, 1) := by decide +kernel
theorem dX5_reach_7 : decode cX5_reach 7 = .ok (.aload_n 1, 1) := by decide +kernel
theorem dX5_reach_8 : decode cX5_reach 8 = .ok (.getfield 62, 3) := by decide +kernel
theorem dX5_reach_11 : decode cX5_reach 11 = .ok (.istore_n 3, 1) := by decide +kernel
theorem dX5_reach_12 : decode cX5_reach 12 = .ok (.iload_n 3, 1) := by decide +kernel
theorem dX5_reach_13 : decode cX5_reach 13 = .ok (.iload_n 2, 1) := by decide +kernel
theorem dX5_reach_14 : decode cX5_reach 14 = .ok (.if_icmp .gt 30, 3) := by decide +kernel
theorem dX5_reach_17 : decode cX5_reach 17 = .ok (.aload_n 0, 1) := by decide +kernel
theorem dX5_reach_18 : decode cX5_reach 18 = .ok (.getfield 15, 3) := by decide +kernel
theorem dX5_reach_21 : decode cX5_reach 21 = .ok (.iload_n 3, 1) := by decide +kernel
theorem dX5_reach_22 : decode cX5_reach 22 = .ok (.iload_n 3, 1) := by decide +kernel
theorem dX5_reach_23 : decode cX5_reach 23 = .ok (.aload_n 1, 1) := by decide +kernel
theorem dX5_reach_24 : decode cX5_reach 24 = .ok (.getfield 62, 3) := by decide +kernel
theorem dX5_reach_27 : decode cX5_reach 27 = .ok (.if_icmp .ne 7, 3) := by decide +kernel
theorem dX5_reach_30 : decode cX5_reach 30 = .ok (.iconst 0, 1) := by decide +kernel
theorem dX5_reach_31 : decode cX5_reach 31 = .ok (.goto 6, 3) := by decide +kernel
theorem dX5_reach_34 : decode cX5_reach 34 = .ok (.sipush 1000, 3) := by decide +kernel
theorem dX5_reach_37 : decode cX5_reach 37 = .ok (.iastore, 1) := by decide +kernel
theorem dX5_reach_38 : decode cX5_reach 38 = .ok (.iinc 3 1, 3) := by decide +kernel
theorem dX5_reach_41 : decode cX5_reach 41 = .ok (.goto (-29), 3) := by decide +kernel
theorem dX5_reach_44 : decode cX5_reach 44 = .ok (.aload_n 1, 1) := by decide +kernel
theorem dX5_reach_45 : decode cX5_reach 45 = .ok (.getfield 62, 3) := by decide +kernel
theorem dX5_reach_48 : decode cX5_reach 48 = .ok (.istore_n 3, 1) := by decide +kernel
theorem dX5_reach_49 : decode cX5_reach 49 = .ok (.iload_n 3, 1) := by decide +kernel
theorem dX5_reach_50 : decode cX5_reach 50 = .ok (.iload_n 2, 1) := by decide +kernel
theorem dX5_reach_51 : decode cX5_reach 51 = .ok (.if_icmp .ge 97, 3) := by decide +kernel
theorem dX5_reach_54 : decode cX5_reach 54 = .ok (.iconst 0, 1) := by decide +kernel
theorem dX5_reach_55 : decode cX5_reach 55 = .ok (.istore 4, 2) := by decide +kernel
theorem dX5_reach_57 : decode cX5_reach 57 = .ok (.aload_n 0, 1) := by decide +kernel
theorem dX5_reach_58 : decode cX5_reach 58 = .ok (.getfield 15, 3) := by decide +kernel
theorem dX5_reach_61 : decode cX5_reach 61 = .ok (.iload_n 3, 1) := by decide +kernel
theorem dX5_reach_62 : decode cX5_reach 62 = .ok (.iaload, 1) := by decide +kernel
theorem dX5_reach_63 : decode cX5_reach 63 = .ok (.sipush 1000, 3) := by decide +kernel
theorem dX5_reach_66 : decode cX5_reach 66 = .ok (.if_icmp .ge 76, 3) := by decide +kernel
theorem dX5_reach_69 : decode cX5_reach 69 = .ok (.iload 4, 2) := by decide +kernel
theorem dX5_reach_71 : decode cX5_reach 71 = .ok (.aload_n 1, 1) := by decide +kernel
theorem dX5_reach_72 : decode cX5_reach 72 = .ok (.getfield 40, 3) := by decide +kernel
theorem dX5_reach_75 : decode cX5_reach 75 = .ok (.if_icmp .ge 67, 3) := by decide +kernel
theorem dX5_reach_78 : decode cX5_reach 78 = .ok (.iconst 1, 1) := by decide +kernel
theorem dX5_reach_79 : decode cX5_reach 79 = .ok (.istore 5, 2) := by decide +kernel
theorem dX5_reach_81 : decode cX5_reach 81 = .ok (.iload 5, 2) := by decide +kernel
theorem dX5_reach_83 : decode cX5_reach 83 = .ok (.iconst 3, 1) := by decide +kernel
theorem dX5_reach_84 : decode cX5_reach 84 = .ok (.if_icmp .gt 52, 3) := by decide +kernel
theorem dX5_reach_87 : decode cX5_reach 87 = .ok (.iload_n 2, 1) := by decide +kernel
theorem dX5_reach_88 : decode cX5_reach 88 = .ok (.iload_n 3, 1) := by decide +kernel
theorem dX5_reach_89 : decode cX5_reach 89 = .ok (.iload 5, 2) := by decide +kernel
theorem dX5_reach_91 : decode cX5_reach 91 = .ok (.aload_n 0, 1) := by decide +kernel
theorem dX5_reach_92 : decode cX5_reach 92 = .ok (.getfield 19, 3) := by decide +kernel
theorem dX5_reach_95 : decode cX5_reach 95 = .ok (.iload 4, 2) := by decide +kernel
theorem dX5_reach_97 : decode cX5_reach 97 = .ok (.iaload, 1) := by decide +kernel
theorem dX5_reach_98 : decode cX5_reach 98 = .ok (.imul, 1) := by decide +kernel
theorem dX5_reach_99 : decode cX5_reach 99 = .ok (.iadd, 1) := by decide +kernel
theorem dX5_reach_100 : decode cX5_reach 100 = .ok (.invokestatic 34, 3) := by decide +kernel
theorem dX5_reach_103 : decode cX5_reach 103 = .ok (.istore 6, 2) := by decide +kernel
theorem dX5_reach_105 : decode cX5_reach 105 = .ok (.aload_n 0, 1) := by decide +kernel
theorem dX5_reach_106 : decode cX5_reach 106 = .ok (.getfield 15, 3) := by decide +kernel
theorem dX5_reach_109 : decode cX5_reach 109 = .ok (.iload 6, 2) := by decide +kernel
theorem dX5_reach_111 : decode cX5_reach 111 = .ok (.aload_n 0, 1) := by decide +kernel
theorem dX5_reach_112 : decode cX5_reach 112 = .ok (.getfield 15, 3) := by decide +kernel
theorem dX5_reach_115 : decode cX5_reach 115 = .ok (.iload 6, 2) := by decide +kernel
theorem dX5_reach_117 : decode cX5_reach 117 = .ok (.iaload, 1) := by decide +kernel
theorem dX5_reach_118 : decode cX5_reach 118 = .ok (.aload_n 0, 1) := by decide +kernel
theorem dX5_reach_119 : decode cX5_reach 119 = .ok (.getfield 15, 3) := by decide +kernel
theorem dX5_reach_122 : decode cX5_reach 122 = .ok (.iload_n 3, 1) := by decide +kernel
theorem dX5_reach_123 : decode cX5_reach 123 = .ok (.iaload, 1) := by decide +kernel
theorem dX5_reach_124 : decode cX5_reach 124 = .ok (.iconst 1, 1) := by decide +kernel
theorem dX5_reach_125 : decode cX5_reach 125 = .ok (.iadd, 1) := by decide +kernel
theorem dX5_reach_126 : decode cX5_reach 126 = .ok (.invokestatic 34, 3) := by decide +kernel
theorem dX5_reach_129 : decode cX5_reach 129 = .ok (.iastore, 1) := by decide +kernel
theorem dX5_reach_130 : decode cX5_reach 130 = .ok (.iinc 5 1, 3) := by decide +kernel
theorem dX5_reach_133 : decode cX5_reach 133 = .ok (.goto (-52), 3) := by decide +kernel
theorem dX5_reach_136 : decode cX5_reach 136 = .ok (.iinc 4 1, 3) := by decide +kernel
theorem dX5_reach_139 : decode cX5_reach 139 = .ok (.goto (-82), 3) := by decide +kernel
theorem dX5_reach_142 : decode cX5_reach 142 = .ok (.iinc 3 1, 3) := by decide +kernel
theorem dX5_reach_145 : decode cX5_reach 145 = .ok (.goto (-96), 3) := by decide +kernel
theorem dX5_reach_148 : decode cX5_reach 148 = .ok (.return_, 1) := by decide +kernel
theorem dX5_fillMonth_0 : decode cX5_fillMonth 0 = .ok (.aload_n 1, 1) := by decide +kernel
theorem dX5_fillMonth_1 : decode cX5_fillMonth 1 = .ok (.getfield 62, 3) := by decide +kernel
theorem dX5_fillMonth_4 : decode cX5_fillMonth 4 = .ok (.istore 4, 2) := by decide +kernel
theorem dX5_fillMonth_6 : decode cX5_fillMonth 6 = .ok (.iload 4, 2) := by decide +kernel
theorem dX5_fillMonth_8 : decode cX5_fillMonth 8 = .ok (.aload_n 1, 1) := by decide +kernel
theorem dX5_fillMonth_9 : decode cX5_fillMonth 9 = .ok (.getfield 29, 3) := by decide +kernel
theorem dX5_fillMonth_12 : decode cX5_fillMonth 12 = .ok (.iconst 1, 1) := by decide +kernel
theorem dX5_fillMonth_13 : decode cX5_fillMonth 13 = .ok (.iaload, 1) := by decide +kernel
theorem dX5_fillMonth_14 : decode cX5_fillMonth 14 = .ok (.if_icmp .gt 76, 3) := by decide +kernel
theorem dX5_fillMonth_17 : decode cX5_fillMonth 17 = .ok (.aload_n 0, 1) := by decide +kernel
theorem dX5_fillMonth_18 : decode cX5_fillMonth 18 = .ok (.getfield 15, 3) := by decide +kernel
theorem dX5_fillMonth_21 : decode cX5_fillMonth 21 = .ok (.iload 4, 2) := by decide +kernel
theorem dX5_fillMonth_23 : decode cX5_fillMonth 23 = .ok (.iaload, 1) := by decide +kernel
theorem dX5_fillMonth_24 : decode cX5_fillMonth 24 = .ok (.iload_n 2, 1) := by decide +kernel
theorem dX5_fillMonth_25 : decode cX5_fillMonth 25 = .ok (.if_icmp .gt 59, 3) := by decide +kernel
theorem dX5_fillMonth_28 : decode cX5_fillMonth 28 = .ok (.aload_n 1, 1) := by decide +kernel
theorem dX5_fillMonth_29 : decode cX5_fillMonth 29 = .ok (.iload 4, 2) := by decide +kernel
theorem dX5_fillMonth_31 : decode cX5_fillMonth 31 = .ok (.iload_n 2, 1) := by decide +kernel
theorem dX5_fillMonth_32 : decode cX5_fillMonth 32 = .ok (.invokestatic 65, 3) := by decide +kernel
theorem dX5_fillMonth_35 : decode cX5_fillMonth 35 = .ok (.lstore 5, 2) := by decide +kernel
theorem dX5_fillMonth_37 : decode cX5_fillMonth 37 = .ok (.iconst 0, 1) := by decide +kernel
theorem dX5_fillMonth_38 : decode cX5_fillMonth 38 = .ok (.istore 7, 2) := by decide +kernel
theorem dX5_fillMonth_40 : decode cX5_fillMonth 40 = .ok (.iload_n 3, 1) := by decide +kernel
theorem dX5_fillMonth_41 : decode cX5_fillMonth 41 = .ok (.ifCond .ne 34, 3) := by decide +kernel
theorem dX5_fillMonth_44 : decode cX5_fillMonth 44 = .ok (.iload 7, 2) := by decide +kernel
theorem dX5_fillMonth_46 : decode cX5_fillMonth 46 = .ok (.aload_n 1, 1) := by decide +kernel
theorem dX5_fillMonth_47 : decode cX5_fillMonth 47 = .ok (.getfield 40, 3) := by decide +kernel
theorem dX5_fillMonth_50 : decode cX5_fillMonth 50 = .ok (.if_icmp .ge 25, 3) := by decide +kernel
theorem dX5_fillMonth_53 : decode cX5_fillMonth 53 = .ok (.lload 5, 2) := by decide +kernel
theorem dX5_fillMonth_55 : decode cX5_fillMonth 55 = .ok (.aload_n 0, 1) := by decide +kernel
theorem dX5_fillMonth_56 : decode cX5_fillMonth 56 = .ok (.aload_n 1, 1) := by decide +kernel
theorem dX5_fillMonth_57 : decode cX5_fillMonth 57 = .ok (.iload 7, 2) := by decide +kernel
theorem dX5_fillMonth_59 : decode cX5_fillMonth 59 = .ok (.iload 4, 2) := by decide +kernel
theorem dX5_fillMonth_61 : decode cX5_fillMonth 61 = .ok (.invokevirtual 69, 3) := by decide +kernel
theorem dX5_fillMonth_64 : decode cX5_fillMonth 64 = .ok (.invokestatic 72, 3) := by decide +kernel
theorem dX5_fillMonth_67 : decode cX5_fillMonth 67 = .ok (.lstore 5, 2) := by decide +kernel
theorem dX5_fillMonth_69 : decode cX5_fillMonth 69 = .ok (.iinc 7 1, 3) := by decide +kernel
theorem dX5_fillMonth_72 : decode cX5_fillMonth 72 = .ok (.goto (-32), 3) := by decide +kernel
theorem dX5_fillMonth_75 : decode cX5_fillMonth 75 = .ok (.aload_n 0, 1) := by decide +kernel
theorem dX5_fillMonth_76 : decode cX5_fillMonth 76 = .ok (.getfield 9, 3) := by decide +kernel
theorem dX5_fillMonth_79 : decode cX5_fillMonth 79 = .ok (.iload 4, 2) := by decide +kernel
theorem dX5_fillMonth_81 : decode cX5_fillMonth 81 = .ok (.lload 5, 2) := by decide +kernel
theorem dX5_fillMonth_83 : decode cX5_fillMonth 83 = .ok (.lastore, 1) := by decide +kernel
theorem dX5_fillMonth_84 : decode cX5_fillMonth 84 = .ok (.iinc 4 1, 3) := by decide +kernel
theorem dX5_fillMonth_87 : decode cX5_fillMonth 87 = .ok (.goto (-81), 3) := by decide +kernel
theorem dX5_fillMonth_90 : decode cX5_fillMonth 90 = .ok (.return_, 1) := by decide +kernel
theorem dX5_homeFor_0 : decode cX5_homeFor 0 = .ok (.ldc2_w 76, 3) := by decide +kernel
theorem dX5_homeFor_3 : decode cX5_homeFor 3 = .ok (.iload_n 1, 1) := by decide +kernel
theorem dX5_homeFor_4 : decode cX5_homeFor 4 = .ok (.i2l, 1) := by decide +kernel
theorem dX5_homeFor_5 : decode cX5_homeFor 5 = .ok (.lmul, 1) := by decide +kernel
theorem dX5_homeFor_6 : decode cX5_homeFor 6 = .ok (.aload_n 0, 1) := by decide +kernel
theorem dX5_homeFor_7 : decode cX5_homeFor 7 = .ok (.aload_n 0, 1) := by decide +kernel
theorem dX5_homeFor_8 : decode cX5_homeFor 8 = .ok (.getfield 29, 3) := by decide +kernel
theorem dX5_homeFor_11 : decode cX5_homeFor 11 = .ok (.iconst 0, 1) := by decide +kernel
theorem dX5_homeFor_12 : decode cX5_homeFor 12 = .ok (.iaload, 1) := by decide +kernel
theorem dX5_homeFor_13 : decode cX5_homeFor 13 = .ok (.iload_n 2, 1) := by decide +kernel
theorem dX5_homeFor_14 : decode cX5_homeFor 14 = .ok (.iadd, 1) := by decide +kernel
theorem dX5_homeFor_15 : decode cX5_homeFor 15 = .ok (.invokevirtual 78, 3) := by decide +kernel
theorem dX5_homeFor_18 : decode cX5_homeFor 18 = .ok (.i2l, 1) := by decide +kernel
theorem dX5_homeFor_19 : decode cX5_homeFor 19 = .ok (.lmul, 1) := by decide +kernel
theorem dX5_homeFor_20 : decode cX5_homeFor 20 = .ok (.lreturn, 1) := by decide +kernel
theorem dX5_averageOf_0 : decode cX5_averageOf 0 = .ok (.lconst 0, 1) := by decide +kernel
theorem dX5_averageOf_1 : decode cX5_averageOf 1 = .ok (.lstore 4, 2) := by decide +kernel
theorem dX5_averageOf_3 : decode cX5_averageOf 3 = .ok (.iconst 0, 1) := by decide +kernel
theorem dX5_averageOf_4 : decode cX5_averageOf 4 = .ok (.istore 6, 2) := by decide +kernel
theorem dX5_averageOf_6 : decode cX5_averageOf 6 = .ok (.iload 6, 2) := by decide +kernel
theorem dX5_averageOf_8 : decode cX5_averageOf 8 = .ok (.iconst 3, 1) := by decide +kernel
theorem dX5_averageOf_9 : decode cX5_averageOf 9 = .ok (.if_icmp .gt 52, 3) := by decide +kernel
theorem dX5_averageOf_12 : decode cX5_averageOf 12 = .ok (.aload_n 1, 1) := by decide +kernel
theorem dX5_averageOf_13 : decode cX5_averageOf 13 = .ok (.getfield 29, 3) := by decide +kernel
theorem dX5_averageOf_16 : decode cX5_averageOf 16 = .ok (.iconst 1, 1) := by decide +kernel
theorem dX5_averageOf_17 : decode cX5_averageOf 17 = .ok (.iaload, 1) := by decide +kernel
theorem dX5_averageOf_18 : decode cX5_averageOf 18 = .ok (.iload_n 3, 1) := by decide +kernel
theorem dX5_averageOf_19 : decode cX5_averageOf 19 = .ok (.iload 6, 2) := by decide +kernel
theorem dX5_averageOf_21 : decode cX5_averageOf 21 = .ok (.aload_n 0, 1) := by decide +kernel
theorem dX5_averageOf_22 : decode cX5_averageOf 22 = .ok (.getfield 19, 3) := by decide +kernel
theorem dX5_averageOf_25 : decode cX5_averageOf 25 = .ok (.iload_n 2, 1) := by decide +kernel
theorem dX5_averageOf_26 : decode cX5_averageOf 26 = .ok (.iaload, 1) := by decide +kernel
theorem dX5_averageOf_27 : decode cX5_averageOf 27 = .ok (.imul, 1) := by decide +kernel
theorem dX5_averageOf_28 : decode cX5_averageOf 28 = .ok (.iadd, 1) := by decide +kernel
theorem dX5_averageOf_29 : decode cX5_averageOf 29 = .ok (.invokestatic 34, 3) := by decide +kernel
theorem dX5_averageOf_32 : decode cX5_averageOf 32 = .ok (.istore 7, 2) := by decide +kernel
theorem dX5_averageOf_34 : decode cX5_averageOf 34 = .ok (.lload 4, 2) := by decide +kernel
theorem dX5_averageOf_36 : decode cX5_averageOf 36 = .ok (.aload_n 1, 1) := by decide +kernel
theorem dX5_averageOf_37 : decode cX5_averageOf 37 = .ok (.iload_n 2, 1) := by decide +kernel
theorem dX5_averageOf_38 : decode cX5_averageOf 38 = .ok (.iload 6, 2) := by decide +kernel
theorem dX5_averageOf_40 : decode cX5_averageOf 40 = .ok (.invokevirtual 82, 3) := by decide +kernel
theorem dX5_averageOf_43 : decode cX5_averageOf 43 = .ok (.i2l, 1) := by decide +kernel
theorem dX5_averageOf_44 : decode cX5_averageOf 44 = .ok (.aload_n 0, 1) := by decide +kernel
theorem dX5_averageOf_45 : decode cX5_averageOf 45 = .ok (.getfield 9, 3) := by decide +kernel
theorem dX5_averageOf_48 : decode cX5_averageOf 48 = .ok (.iload 7, 2) := by decide +kernel
theorem dX5_averageOf_50 : decode cX5_averageOf 50 = .ok (.laload, 1) := by decide +kernel
theorem dX5_averageOf_51 : decode cX5_averageOf 51 = .ok (.lmul, 1) := by decide +kernel
theorem dX5_averageOf_52 : decode cX5_averageOf 52 = .ok (.ladd, 1) := by decide +kernel
theorem dX5_averageOf_53 : decode cX5_averageOf 53 = .ok (.lstore 4, 2) := by decide +kernel
theorem dX5_averageOf_55 : decode cX5_averageOf 55 = .ok (.iinc 6 1, 3) := by decide +kernel
theorem dX5_averageOf_58 : decode cX5_averageOf 58 = .ok (.goto (-52), 3) := by decide +kernel
theorem dX5_averageOf_61 : decode cX5_averageOf 61 = .ok (.lload 4, 2) := by decide +kernel
theorem dX5_averageOf_63 : decode cX5_averageOf 63 = .ok (.ldc2_w 85, 3) := by decide +kernel
theorem dX5_averageOf_66 : decode cX5_averageOf 66 = .ok (.ldiv, 1) := by decide +kernel
theorem dX5_averageOf_67 : decode cX5_averageOf 67 = .ok (.lreturn, 1) := by decide +kernel
theorem dX5_chanceOfOil_0 : decode cX5_chanceOfOil 0 = .ok (.aload_n 1, 1) := by decide +kernel
theorem dX5_chanceOfOil_1 : decode cX5_chanceOfOil 1 = .ok (.getfield 29, 3) := by decide +kernel
theorem dX5_chanceOfOil_4 : decode cX5_chanceOfOil 4 = .ok (.iconst 1, 1) := by decide +kernel
theorem dX5_chanceOfOil_5 : decode cX5_chanceOfOil 5 = .ok (.iaload, 1) := by decide +kernel
theorem dX5_chanceOfOil_6 : decode cX5_chanceOfOil 6 = .ok (.istore 5, 2) := by decide +kernel
theorem dX5_chanceOfOil_8 : decode cX5_chanceOfOil 8 = .ok (.iconst 1, 1) := by decide +kernel
theorem dX5_chanceOfOil_9 : decode cX5_chanceOfOil 9 = .ok (.aload_n 0, 1) := by decide +kernel
theorem dX5_chanceOfOil_10 : decode cX5_chanceOfOil 10 = .ok (.getfield 25, 3) := by decide +kernel
theorem dX5_chanceOfOil_13 : decode cX5_chanceOfOil 13 = .ok (.aload_n 1, 1) := by decide +kernel
theorem dX5_chanceOfOil_14 : decode cX5_chanceOfOil 14 = .ok (.iload_n 2, 1) := by decide +kernel
theorem dX5_chanceOfOil_15 : decode cX5_chanceOfOil 15 = .ok (.aload_n 1, 1) := by decide +kernel
theorem dX5_chanceOfOil_16 : decode cX5_chanceOfOil 16 = .ok (.invokevirtual 44, 3) := by decide +kernel
theorem dX5_chanceOfOil_19 : decode cX5_chanceOfOil 19 = .ok (.invokevirtual 48, 3) := by decide +kernel
theorem dX5_chanceOfOil_22 : decode cX5_chanceOfOil 22 = .ok (.invokestatic 87, 3) := by decide +kernel
theorem dX5_chanceOfOil_25 : decode cX5_chanceOfOil 25 = .ok (.istore 6, 2) := by decide +kernel
theorem dX5_chanceOfOil_27 : decode cX5_chanceOfOil 27 = .ok (.iload_n 3, 1) := by decide +kernel
theorem dX5_chanceOfOil_28 : decode cX5_chanceOfOil 28 = .ok (.iconst 3, 1) := by decide +kernel
theorem dX5_chanceOfOil_29 : decode cX5_chanceOfOil 29 = .ok (.imul, 1) := by decide +kernel
theorem dX5_chanceOfOil_30 : decode cX5_chanceOfOil 30 = .ok (.iload 5, 2) := by decide +kernel
theorem dX5_chanceOfOil_32 : decode cX5_chanceOfOil 32 = .ok (.aload_n 1, 1) := by decide +kernel
theorem dX5_chanceOfOil_33 : decode cX5_chanceOfOil 33 = .ok (.getfield 62, 3) := by decide +kernel
theorem dX5_chanceOfOil_36 : decode cX5_chanceOfOil 36 = .ok (.isub, 1) := by decide +kernel
theorem dX5_chanceOfOil_37 : decode cX5_chanceOfOil 37 = .ok (.iload 6, 2) := by decide +kernel
theorem dX5_chanceOfOil_39 : decode cX5_chanceOfOil 39 = .ok (.iadd, 1) := by decide +kernel
theorem dX5_chanceOfOil_40 : decode cX5_chanceOfOil 40 = .ok (.iconst 1, 1) := by decide +kernel
theorem dX5_chanceOfOil_41 : decode cX5_chanceOfOil 41 = .ok (.isub, 1) := by decide +kernel
theorem dX5_chanceOfOil_42 : decode cX5_chanceOfOil 42 = .ok (.iload 6, 2) := by decide +kernel
theorem dX5_chanceOfOil_44 : decode cX5_chanceOfOil 44 = .ok (.idiv, 1) := by decide +kernel
theorem dX5_chanceOfOil_45 : decode cX5_chanceOfOil 45 = .ok (.invokestatic 34, 3) := by decide +kernel
theorem dX5_chanceOfOil_48 : decode cX5_chanceOfOil 48 = .ok (.istore 7, 2) := by decide +kernel
theorem dX5_chanceOfOil_50 : decode cX5_chanceOfOil 50 = .ok (.iconst 0, 1) := by decide +kernel
theorem dX5_chanceOfOil_51 : decode cX5_chanceOfOil 51 = .ok (.istore 8, 2) := by decide +kernel
theorem dX5_chanceOfOil_53 : decode cX5_chanceOfOil 53 = .ok (.iload 8, 2) := by decide +kernel
theorem dX5_chanceOfOil_55 : decode cX5_chanceOfOil 55 = .ok (.iload 7, 2) := by decide +kernel
theorem dX5_chanceOfOil_57 : decode cX5_chanceOfOil 57 = .ok (.if_icmp .gt 17, 3) := by decide +kernel
theorem dX5_chanceOfOil_60 : decode cX5_chanceOfOil 60 = .ok (.aload_n 0, 1) := by decide +kernel
theorem dX5_chanceOfOil_61 : decode cX5_chanceOfOil 61 = .ok (.getfield 22, 3) := by decide +kernel
theorem dX5_chanceOfOil_64 : decode cX5_chanceOfOil 64 = .ok (.iload 8, 2) := by decide +kernel
theorem dX5_chanceOfOil_66 : decode cX5_chanceOfOil 66 = .ok (.lconst 0, 1) := by decide +kernel
theorem dX5_chanceOfOil_67 : decode cX5_chanceOfOil 67 = .ok (.lastore, 1) := by decide +kernel
theorem dX5_chanceOfOil_68 : decode cX5_chanceOfOil 68 = .ok (.iinc 8 1, 3) := by decide +kernel
theorem dX5_chanceOfOil_71 : decode cX5_chanceOfOil 71 = .ok (.goto (-18), 3) := by decide +kernel
theorem dX5_chanceOfOil_74 : decode cX5_chanceOfOil 74 = .ok (.aload_n 0, 1) := by decide +kernel
theorem dX5_chanceOfOil_75 : decode cX5_chanceOfOil 75 = .ok (.getfield 22, 3) := by decide +kernel
theorem dX5_chanceOfOil_78 : decode cX5_chanceOfOil 78 = .ok (.iconst 0, 1) := by decide +kernel
theorem dX5_chanceOfOil_79 : decode cX5_chanceOfOil 79 = .ok (.ldc2_w 89, 3) := by decide +kernel
theorem dX5_chanceOfOil_82 : decode cX5_chanceOfOil 82 = .ok (.lastore, 1) := by decide +kernel
theorem dX5_chanceOfOil_83 : decode cX5_chanceOfOil 83 = .ok (.iconst 0, 1) := by decide +kernel
theorem dX5_chanceOfOil_84 : decode cX5_chanceOfOil 84 = .ok (.istore 8, 2) := by decide +kernel
theorem dX5_chanceOfOil_86 : decode cX5_chanceOfOil 86 = .ok (.iload 8, 2) := by decide +kernel
theorem dX5_chanceOfOil_88 : decode cX5_chanceOfOil 88 = .ok (.iload_n 3, 1) := by decide +kernel
theorem dX5_chanceOfOil_89 : decode cX5_chanceOfOil 89 = .ok (.if_icmp .ge 17, 3) := by decide +kernel
theorem dX5_chanceOfOil_92 : decode cX5_chanceOfOil 92 = .ok (.aload_n 0, 1) := by decide +kernel
theorem dX5_chanceOfOil_93 : decode cX5_chanceOfOil 93 = .ok (.aload_n 1, 1) := by decide +kernel
theorem dX5_chanceOfOil_94 : decode cX5_chanceOfOil 94 = .ok (.iload_n 2, 1) := by decide +kernel
theorem dX5_chanceOfOil_95 : decode cX5_chanceOfOil 95 = .ok (.iload 7, 2) := by decide +kernel
theorem dX5_chanceOfOil_97 : decode cX5_chanceOfOil 97 = .ok (.invokevirtual 91, 3) := by decide +kernel
theorem dX5_chanceOfOil_100 : decode cX5_chanceOfOil 100 = .ok (.iinc 8 1, 3) := by decide +kernel
theorem dX5_chanceOfOil_103 : decode cX5_chanceOfOil 103 = .ok (.goto (-17), 3) := by decide +kernel
theorem dX5_chanceOfOil_106 : decode cX5_chanceOfOil 106 = .ok (.lconst 0, 1) := by decide +kernel
theorem dX5_chanceOfOil_107 : decode cX5_chanceOfOil 107 = .ok (.lstore 8, 2) := by decide +kernel
theorem dX5_chanceOfOil_109 : decode cX5_chanceOfOil 109 = .ok (.iconst 0, 1) := by decide +kernel
theorem dX5_chanceOfOil_110 : decode cX5_chanceOfOil 110 = .ok (.istore 10, 2) := by decide +kernel
theorem dX5_chanceOfOil_112 : decode cX5_chanceOfOil 112 = .ok (.iload 10, 2) := by decide +kernel
theorem dX5_chanceOfOil_114 : decode cX5_chanceOfOil 114 = .ok (.iload 7, 2) := by decide +kernel
theorem dX5_chanceOfOil_116 : decode cX5_chanceOfOil 116 = .ok (.if_icmp .gt 41, 3) := by decide +kernel
theorem dX5_chanceOfOil_119 : decode cX5_chanceOfOil 119 = .ok (.iload 5, 2) := by decide +kernel
theorem dX5_chanceOfOil_121 : decode cX5_chanceOfOil 121 = .ok (.aload_n 1, 1) := by decide +kernel
theorem dX5_chanceOfOil_122 : decode cX5_chanceOfOil 122 = .ok (.getfield 62, 3) := by decide +kernel
theorem dX5_chanceOfOil_125 : decode cX5_chanceOfOil 125 = .ok (.iload 10, 2) := by decide +kernel
theorem dX5_chanceOfOil_127 : decode cX5_chanceOfOil 127 = .ok (.iload 6, 2) := by decide +kernel
theorem dX5_chanceOfOil_129 : decode cX5_chanceOfOil 129 = .ok (.imul, 1) := by decide +kernel
theorem dX5_chanceOfOil_130 : decode cX5_chanceOfOil 130 = .ok (.iadd, 1) := by decide +kernel
theorem dX5_chanceOfOil_131 : decode cX5_chanceOfOil 131 = .ok (.invokestatic 34, 3) := by decide +kernel
theorem dX5_chanceOfOil_134 : decode cX5_chanceOfOil 134 = .ok (.iload 4, 2) := by decide +kernel
theorem dX5_chanceOfOil_136 : decode cX5_chanceOfOil 136 = .ok (.if_icmp .lt 15, 3) := by decide +kernel
theorem dX5_chanceOfOil_139 : decode cX5_chanceOfOil 139 = .ok (.lload 8, 2) := by decide +kernel
theorem dX5_chanceOfOil_141 : decode cX5_chanceOfOil 141 = .ok (.aload_n 0, 1) := by decide +kernel
theorem dX5_chanceOfOil_142 : decode cX5_chanceOfOil 142 = .ok (.getfield 22, 3) := by decide +kernel
theorem dX5_chanceOfOil_145 : decode cX5_chanceOfOil 145 = .ok (.iload 10, 2) := by decide +kernel
theorem dX5_chanceOfOil_147 : decode cX5_chanceOfOil 147 = .ok (.laload, 1) := by decide +kernel
theorem dX5_chanceOfOil_148 : decode cX5_chanceOfOil 148 = .ok (.ladd, 1) := by decide +kernel
theorem dX5_chanceOfOil_149 : decode cX5_chanceOfOil 149 = .ok (.lstore 8, 2) := by decide +kernel
theorem dX5_chanceOfOil_151 : decode cX5_chanceOfOil 151 = .ok (.iinc 10 1, 3) := by decide +kernel
theorem dX5_chanceOfOil_154 : decode cX5_chanceOfOil 154 = .ok (.goto (-42), 3) := by decide +kernel
theorem dX5_chanceOfOil_157 : decode cX5_chanceOfOil 157 = .ok (.lload 8, 2) := by decide +kernel
theorem dX5_chanceOfOil_159 : decode cX5_chanceOfOil 159 = .ok (.lreturn, 1) := by decide +kernel
theorem dX5_spread_0 : decode cX5_spread 0 = .ok (.iload_n 3, 1) := by decide +kernel
theorem dX5_spread_1 : decode cX5_spread 1 = .ok (.istore 4, 2) := by decide +kernel
theorem dX5_spread_3 : decode cX5_spread 3 = .ok (.iload 4, 2) := by decide +kernel
theorem dX5_spread_5 : decode cX5_spread 5 = .ok (.ifCond .lt 80, 3) := by decide +kernel
theorem dX5_spread_8 : decode cX5_spread 8 = .ok (.aload_n 0, 1) := by decide +kernel
theorem dX5_spread_9 : decode cX5_spread 9 = .ok (.getfield 22, 3) := by decide +kernel
theorem dX5_spread_12 : decode cX5_spread 12 = .ok (.iload 4, 2) := by decide +kernel
theorem dX5_spread_14 : decode cX5_spread 14 = .ok (.laload, 1) := by decide +kernel
theorem dX5_spread_15 : decode cX5_spread 15 = .ok (.lstore 5, 2) := by decide +kernel
theorem dX5_spread_17 : decode cX5_spread 17 = .ok (.aload_n 0, 1) := by decide +kernel
theorem dX5_spread_18 : decode cX5_spread 18 = .ok (.getfield 22, 3) := by decide +kernel
theorem dX5_spread_21 : decode cX5_spread 21 = .ok (.iload 4, 2) := by decide +kernel
theorem dX5_spread_23 : decode cX5_spread 23 = .ok (.lconst 0, 1) := by decide +kernel
theorem dX5_spread_24 : decode cX5_spread 24 = .ok (.lastore, 1) := by decide +kernel
theorem dX5_spread_25 : decode cX5_spread 25 = .ok (.iconst 0, 1) := by decide +kernel
theorem dX5_spread_26 : decode cX5_spread 26 = .ok (.istore 7, 2) := by decide +kernel
theorem dX5_spread_28 : decode cX5_spread 28 = .ok (.iload 7, 2) := by decide +kernel
theorem dX5_spread_30 : decode cX5_spread 30 = .ok (.iconst 3, 1) := by decide +kernel
theorem dX5_spread_31 : decode cX5_spread 31 = .ok (.if_icmp .gt 48, 3) := by decide +kernel
theorem dX5_spread_34 : decode cX5_spread 34 = .ok (.lload 5, 2) := by decide +kernel
theorem dX5_spread_36 : decode cX5_spread 36 = .ok (.lconst 0, 1) := by decide +kernel
theorem dX5_spread_37 : decode cX5_spread 37 = .ok (.lcmp, 1) := by decide +kernel
theorem dX5_spread_38 : decode cX5_spread 38 = .ok (.ifCond .le 41, 3) := by decide +kernel
theorem dX5_spread_41 : decode cX5_spread 41 = .ok (.aload_n 0, 1) := by decide +kernel
theorem dX5_spread_42 : decode cX5_spread 42 = .ok (.getfield 22, 3) := by decide +kernel
theorem dX5_spread_45 : decode cX5_spread 45 = .ok (.iload_n 3, 1) := by decide +kernel
theorem dX5_spread_46 : decode cX5_spread 46 = .ok (.iload 4, 2) := by decide +kernel
theorem dX5_spread_48 : decode cX5_spread 48 = .ok (.iload 7, 2) := by decide +kernel
theorem dX5_spread_50 : decode cX5_spread 50 = .ok (.iadd, 1) := by decide +kernel
theorem dX5_spread_51 : decode cX5_spread 51 = .ok (.invokestatic 34, 3) := by decide +kernel
theorem dX5_spread_54 : decode cX5_spread 54 = .ok (.dup2, 1) := by decide +kernel
theorem dX5_spread_55 : decode cX5_spread 55 = .ok (.laload, 1) := by decide +kernel
theorem dX5_spread_56 : decode cX5_spread 56 = .ok (.lload 5, 2) := by decide +kernel
theorem dX5_spread_58 : decode cX5_spread 58 = .ok (.aload_n 1, 1) := by decide +kernel
theorem dX5_spread_59 : decode cX5_spread 59 = .ok (.iload_n 2, 1) := by decide +kernel
theorem dX5_spread_60 : decode cX5_spread 60 = .ok (.iload 7, 2) := by decide +kernel
theorem dX5_spread_62 : decode cX5_spread 62 = .ok (.invokevirtual 82, 3) := by decide +kernel
theorem dX5_spread_65 : decode cX5_spread 65 = .ok (.i2l, 1) := by decide +kernel
theorem dX5_spread_66 : decode cX5_spread 66 = .ok (.lmul, 1) := by decide +kernel
theorem dX5_spread_67 : decode cX5_spread 67 = .ok (.ldc2_w 85, 3) := by decide +kernel
theorem dX5_spread_70 : decode cX5_spread 70 = .ok (.ldiv, 1) := by decide +kernel
theorem dX5_spread_71 : decode cX5_spread 71 = .ok (.ladd, 1) := by decide +kernel
theorem dX5_spread_72 : decode cX5_spread 72 = .ok (.lastore, 1) := by decide +kernel
theorem dX5_spread_73 : decode cX5_spread 73 = .ok (.iinc 7 1, 3) := by decide +kernel
theorem dX5_spread_76 : decode cX5_spread 76 = .ok (.goto (-48), 3) := by decide +kernel
theorem dX5_spread_79 : decode cX5_spread 79 = .ok (.iinc 4 (-1), 3) := by decide +kernel
theorem dX5_spread_82 : decode cX5_spread 82 = .ok (.goto (-79), 3) := by decide +kernel
theorem dX5_spread_85 : decode cX5_spread 85 = .ok (.return_, 1) := by decide +kernel
theorem dX5_atRest_0 : decode cX5_atRest 0 = .ok (.aload_n 1, 1) := by decide +kernel
theorem dX5_atRest_1 : decode cX5_atRest 1 = .ok (.getfield 95, 3) := by decide +kernel
theorem dX5_atRest_4 : decode cX5_atRest 4 = .ok (.istore_n 3, 1) := by decide +kernel
theorem dX5_atRest_5 : decode cX5_atRest 5 = .ok (.iconst 0, 1) := by decide +kernel
theorem dX5_atRest_6 : decode cX5_atRest 6 = .ok (.istore 4, 2) := by decide +kernel
theorem dX5_atRest_8 : decode cX5_atRest 8 = .ok (.iconst 1, 1) := by decide +kernel
theorem dX5_atRest_9 : decode cX5_atRest 9 = .ok (.istore 5, 2) := by decide +kernel
theorem dX5_atRest_11 : decode cX5_atRest 11 = .ok (.iload 5, 2) := by decide +kernel
theorem dX5_atRest_13 : decode cX5_atRest 13 = .ok (.ifCond .eq 83, 3) := by decide +kernel
theorem dX5_atRest_16 : decode cX5_atRest 16 = .ok (.iload 4, 2) := by decide +kernel
theorem dX5_atRest_18 : decode cX5_atRest 18 = .ok (.bipush 8, 2) := by decide +kernel
theorem dX5_atRest_20 : decode cX5_atRest 20 = .ok (.if_icmp .gt 76, 3) := by decide +kernel
theorem dX5_atRest_23 : decode cX5_atRest 23 = .ok (.iconst 0, 1) := by decide +kernel
theorem dX5_atRest_24 : decode cX5_atRest 24 = .ok (.istore 5, 2) := by decide +kernel
theorem dX5_atRest_26 : decode cX5_atRest 26 = .ok (.iinc 4 1, 3) := by decide +kernel
theorem dX5_atRest_29 : decode cX5_atRest 29 = .ok (.iconst 0, 1) := by decide +kernel
theorem dX5_atRest_30 : decode cX5_atRest 30 = .ok (.istore 6, 2) := by decide +kernel
theorem dX5_atRest_32 : decode cX5_atRest 32 = .ok (.iload 6, 2) := by decide +kernel
theorem dX5_atRest_34 : decode cX5_atRest 34 = .ok (.aload_n 1, 1) := by decide +kernel
theorem dX5_atRest_35 : decode cX5_atRest 35 = .ok (.getfield 98, 3) := by decide +kernel
theorem dX5_atRest_38 : decode cX5_atRest 38 = .ok (.if_icmp .ge 55, 3) := by decide +kernel
theorem dX5_atRest_41 : decode cX5_atRest 41 = .ok (.iload_n 3, 1) := by decide +kernel
theorem dX5_atRest_42 : decode cX5_atRest 42 = .ok (.iload 6, 2) := by decide +kernel
theorem dX5_atRest_44 : decode cX5_atRest 44 = .ok (.ishr, 1) := by decide +kernel
theorem dX5_atRest_45 : decode cX5_atRest 45 = .ok (.iconst 1, 1) := by decide +kernel
theorem dX5_atRest_46 : decode cX5_atRest 46 = .ok (.iand, 1) := by decide +kernel
theorem dX5_atRest_47 : decode cX5_atRest 47 = .ok (.iconst 1, 1) := by decide +kernel
theorem dX5_atRest_48 : decode cX5_atRest 48 = .ok (.if_icmp .ne 39, 3) := by decide +kernel
theorem dX5_atRest_51 : decode cX5_atRest 51 = .ok (.aload_n 0, 1) := by decide +kernel
theorem dX5_atRest_52 : decode cX5_atRest 52 = .ok (.getfield 25, 3) := by decide +kernel
theorem dX5_atRest_55 : decode cX5_atRest 55 = .ok (.aload_n 1, 1) := by decide +kernel
theorem dX5_atRest_56 : decode cX5_atRest 56 = .ok (.iload 6, 2) := by decide +kernel
theorem dX5_atRest_58 : decode cX5_atRest 58 = .ok (.aload_n 1, 1) := by decide +kernel
theorem dX5_atRest_59 : decode cX5_atRest 59 = .ok (.getfield 101, 3) := by decide +kernel
theorem dX5_atRest_62 : decode cX5_atRest 62 = .ok (.iload 6, 2) := by decide +kernel
theorem dX5_atRest_64 : decode cX5_atRest 64 = .ok (.iaload, 1) := by decide +kernel
theorem dX5_atRest_65 : decode cX5_atRest 65 = .ok (.iload_n 3, 1) := by decide +kernel
theorem dX5_atRest_66 : decode cX5_atRest 66 = .ok (.invokestatic 104, 3) := by decide +kernel
theorem dX5_atRest_69 : decode cX5_atRest 69 = .ok (.invokevirtual 109, 3) := by decide +kernel
theorem dX5_atRest_72 : decode cX5_atRest 72 = .ok (.ifCond .eq 15, 3) := by decide +kernel
theorem dX5_atRest_75 : decode cX5_atRest 75 = .ok (.iload_n 3, 1) := by decide +kernel
theorem dX5_atRest_76 : decode cX5_atRest 76 = .ok (.iconst 1, 1) := by decide +kernel
theorem dX5_atRest_77 : decode cX5_atRest 77 = .ok (.iload 6, 2) := by decide +kernel
theorem dX5_atRest_79 : decode cX5_atRest 79 = .ok (.ishl, 1) := by decide +kernel
theorem dX5_atRest_80 : decode cX5_atRest 80 = .ok (.iconst (-1), 1) := by decide +kernel
theorem dX5_atRest_81 : decode cX5_atRest 81 = .ok (.ixor, 1) := by decide +kernel
theorem dX5_atRest_82 : decode cX5_atRest 82 = .ok (.iand, 1) := by decide +kernel
theorem dX5_atRest_83 : decode cX5_atRest 83 = .ok (.istore_n 3, 1) := by decide +kernel
theorem dX5_atRest_84 : decode cX5_atRest 84 = .ok (.iconst 1, 1) := by decide +kernel
theorem dX5_atRest_85 : decode cX5_atRest 85 = .ok (.istore 5, 2) := by decide +kernel
theorem dX5_atRest_87 : decode cX5_atRest 87 = .ok (.iinc 6 1, 3) := by decide +kernel
theorem dX5_atRest_90 : decode cX5_atRest 90 = .ok (.goto (-58), 3) := by decide +kernel
theorem dX5_atRest_93 : decode cX5_atRest 93 = .ok (.goto (-82), 3) := by decide +kernel
theorem dX5_atRest_96 : decode cX5_atRest 96 = .ok (.iload_n 2, 1) := by decide +kernel
theorem dX5_atRest_97 : decode cX5_atRest 97 = .ok (.ifCond .eq 8, 3) := by decide +kernel
theorem dX5_atRest_100 : decode cX5_atRest 100 = .ok (.iload 4, 2) := by decide +kernel
theorem dX5_atRest_102 : decode cX5_atRest 102 = .ok (.goto 4, 3) := by decide +kernel
theorem dX5_atRest_105 : decode cX5_atRest 105 = .ok (.iload_n 3, 1) := by decide +kernel
theorem dX5_atRest_106 : decode cX5_atRest 106 = .ok (.ireturn, 1) := by decide +kernel
theorem dX5_greatestLay_0 : decode cX5_greatestLay 0 = .ok (.aload_n 1, 1) := by decide +kernel
theorem dX5_greatestLay_1 : decode cX5_greatestLay 1 = .ok (.invokevirtual 44, 3) := by decide +kernel
theorem dX5_greatestLay_4 : decode cX5_greatestLay 4 = .ok (.istore_n 3, 1) := by decide +kernel
theorem dX5_greatestLay_5 : decode cX5_greatestLay 5 = .ok (.sipush 999, 3) := by decide +kernel
theorem dX5_greatestLay_8 : decode cX5_greatestLay 8 = .ok (.istore 4, 2) := by decide +kernel
theorem dX5_greatestLay_10 : decode cX5_greatestLay 10 = .ok (.iload 4, 2) := by decide +kernel
theorem dX5_greatestLay_12 : decode cX5_greatestLay 12 = .ok (.ifCond .le 27, 3) := by decide +kernel
theorem dX5_greatestLay_15 : decode cX5_greatestLay 15 = .ok (.aload_n 0, 1) := by decide +kernel
theorem dX5_greatestLay_16 : decode cX5_greatestLay 16 = .ok (.getfield 25, 3) := by decide +kernel
theorem dX5_greatestLay_19 : decode cX5_greatestLay 19 = .ok (.aload_n 1, 1) := by decide +kernel
theorem dX5_greatestLay_20 : decode cX5_greatestLay 20 = .ok (.iload_n 2, 1) := by decide +kernel
theorem dX5_greatestLay_21 : decode cX5_greatestLay 21 = .ok (.iload 4, 2) := by decide +kernel
theorem dX5_greatestLay_23 : decode cX5_greatestLay 23 = .ok (.iload_n 3, 1) := by decide +kernel
theorem dX5_greatestLay_24 : decode cX5_greatestLay 24 = .ok (.invokevirtual 109, 3) := by decide +kernel
theorem dX5_greatestLay_27 : decode cX5_greatestLay 27 = .ok (.ifCond .ne 6, 3) := by decide +kernel
theorem dX5_greatestLay_30 : decode cX5_greatestLay 30 = .ok (.iload 4, 2) := by decide +kernel
theorem dX5_greatestLay_32 : decode cX5_greatestLay 32 = .ok (.ireturn, 1) := by decide +kernel
theorem dX5_greatestLay_33 : decode cX5_greatestLay 33 = .ok (.iinc 4 (-1), 3) := by decide +kernel
theorem dX5_greatestLay_36 : decode cX5_greatestLay 36 = .ok (.goto (-26), 3) := by decide +kernel
theorem dX5_greatestLay_39 : decode cX5_greatestLay 39 = .ok (.iconst (-1), 1) := by decide +kernel
theorem dX5_greatestLay_40 : decode cX5_greatestLay 40 = .ok (.ireturn, 1) := by decide +kernel
theorem dX5_cheapestCrew_0 : decode cX5_cheapestCrew 0 = .ok (.iconst 0, 1) := by decide +kernel
theorem dX5_cheapestCrew_1 : decode cX5_cheapestCrew 1 = .ok (.istore 5, 2) := by decide +kernel
theorem dX5_cheapestCrew_3 : decode cX5_cheapestCrew 3 = .ok (.iconst 1, 1) := by decide +kernel
theorem dX5_cheapestCrew_4 : decode cX5_cheapestCrew 4 = .ok (.istore 6, 2) := by decide +kernel
theorem dX5_cheapestCrew_6 : decode cX5_cheapestCrew 6 = .ok (.iload 6, 2) := by decide +kernel
theorem dX5_cheapestCrew_8 : decode cX5_cheapestCrew 8 = .ok (.aload_n 1, 1) := by decide +kernel
theorem dX5_cheapestCrew_9 : decode cX5_cheapestCrew 9 = .ok (.invokevirtual 44, 3) := by decide +kernel
theorem dX5_cheapestCrew_12 : decode cX5_cheapestCrew 12 = .ok (.if_icmp .gt 33, 3) := by decide +kernel
theorem dX5_cheapestCrew_15 : decode cX5_cheapestCrew 15 = .ok (.aload_n 0, 1) := by decide +kernel
theorem dX5_cheapestCrew_16 : decode cX5_cheapestCrew 16 = .ok (.getfield 25, 3) := by decide +kernel
theorem dX5_cheapestCrew_19 : decode cX5_cheapestCrew 19 = .ok (.aload_n 1, 1) := by decide +kernel
theorem dX5_cheapestCrew_20 : decode cX5_cheapestCrew 20 = .ok (.iload_n 2, 1) := by decide +kernel
theorem dX5_cheapestCrew_21 : decode cX5_cheapestCrew 21 = .ok (.iload 6, 2) := by decide +kernel
theorem dX5_cheapestCrew_23 : decode cX5_cheapestCrew 23 = .ok (.invokevirtual 48, 3) := by decide +kernel
theorem dX5_cheapestCrew_26 : decode cX5_cheapestCrew 26 = .ok (.iload_n 3, 1) := by decide +kernel
theorem dX5_cheapestCrew_27 : decode cX5_cheapestCrew 27 = .ok (.if_icmp .lt 12, 3) := by decide +kernel
theorem dX5_cheapestCrew_30 : decode cX5_cheapestCrew 30 = .ok (.iload 5, 2) := by decide +kernel
theorem dX5_cheapestCrew_32 : decode cX5_cheapestCrew 32 = .ok (.iconst 1, 1) := by decide +kernel
theorem dX5_cheapestCrew_33 : decode cX5_cheapestCrew 33 = .ok (.iload 6, 2) := by decide +kernel
theorem dX5_cheapestCrew_35 : decode cX5_cheapestCrew 35 = .ok (.ishl, 1) := by decide +kernel
theorem dX5_cheapestCrew_36 : decode cX5_cheapestCrew 36 = .ok (.ior, 1) := by decide +kernel
theorem dX5_cheapestCrew_37 : decode cX5_cheapestCrew 37 = .ok (.istore 5, 2) := by decide +kernel
theorem dX5_cheapestCrew_39 : decode cX5_cheapestCrew 39 = .ok (.iinc 6 1, 3) := by decide +kernel
theorem dX5_cheapestCrew_42 : decode cX5_cheapestCrew 42 = .ok (.goto (-36), 3) := by decide +kernel
theorem dX5_cheapestCrew_45 : decode cX5_cheapestCrew 45 = .ok (.iconst (-1), 1) := by decide +kernel
theorem dX5_cheapestCrew_46 : decode cX5_cheapestCrew 46 = .ok (.istore 6, 2) := by decide +kernel
theorem dX5_cheapestCrew_48 : decode cX5_cheapestCrew 48 = .ok (.ldc2_w 113, 3) := by decide +kernel
theorem dX5_cheapestCrew_51 : decode cX5_cheapestCrew 51 = .ok (.lstore 7, 2) := by decide +kernel
theorem dX5_cheapestCrew_53 : decode cX5_cheapestCrew 53 = .ok (.iconst 1, 1) := by decide +kernel
theorem dX5_cheapestCrew_54 : decode cX5_cheapestCrew 54 = .ok (.istore 9, 2) := by decide +kernel
theorem dX5_cheapestCrew_56 : decode cX5_cheapestCrew 56 = .ok (.iload 9, 2) := by decide +kernel
theorem dX5_cheapestCrew_58 : decode cX5_cheapestCrew 58 = .ok (.aload_n 1, 1) := by decide +kernel
theorem dX5_cheapestCrew_59 : decode cX5_cheapestCrew 59 = .ok (.getfield 95, 3) := by decide +kernel
theorem dX5_cheapestCrew_62 : decode cX5_cheapestCrew 62 = .ok (.if_icmp .gt 86, 3) := by decide +kernel
theorem dX5_cheapestCrew_65 : decode cX5_cheapestCrew 65 = .ok (.iload 9, 2) := by decide +kernel
theorem dX5_cheapestCrew_67 : decode cX5_cheapestCrew 67 = .ok (.aload_n 1, 1) := by decide +kernel
theorem dX5_cheapestCrew_68 : decode cX5_cheapestCrew 68 = .ok (.getfield 95, 3) := by decide +kernel
theorem dX5_cheapestCrew_71 : decode cX5_cheapestCrew 71 = .ok (.iconst (-1), 1) := by decide +kernel
theorem dX5_cheapestCrew_72 : decode cX5_cheapestCrew 72 = .ok (.ixor, 1) := by decide +kernel
theorem dX5_cheapestCrew_73 : decode cX5_cheapestCrew 73 = .ok (.iand, 1) := by decide +kernel
theorem dX5_cheapestCrew_74 : decode cX5_cheapestCrew 74 = .ok (.ifCond .ne 21, 3) := by decide +kernel
theorem dX5_cheapestCrew_77 : decode cX5_cheapestCrew 77 = .ok (.iload 5, 2) := by decide +kernel
theorem dX5_cheapestCrew_79 : decode cX5_cheapestCrew 79 = .ok (.iload 9, 2) := by decide +kernel
theorem dX5_cheapestCrew_81 : decode cX5_cheapestCrew 81 = .ok (.invokestatic 104, 3) := by decide +kernel
theorem dX5_cheapestCrew_84 : decode cX5_cheapestCrew 84 = .ok (.ishr, 1) := by decide +kernel
theorem dX5_cheapestCrew_85 : decode cX5_cheapestCrew 85 = .ok (.iconst 1, 1) := by decide +kernel
theorem dX5_cheapestCrew_86 : decode cX5_cheapestCrew 86 = .ok (.iand, 1) := by decide +kernel
theorem dX5_cheapestCrew_87 : decode cX5_cheapestCrew 87 = .ok (.iconst 1, 1) := by decide +kernel
theorem dX5_cheapestCrew_88 : decode cX5_cheapestCrew 88 = .ok (.if_icmp .ne 7, 3) := by decide +kernel
theorem dX5_cheapestCrew_91 : decode cX5_cheapestCrew 91 = .ok (.iconst 1, 1) := by decide +kernel
theorem dX5_cheapestCrew_92 : decode cX5_cheapestCrew 92 = .ok (.goto 4, 3) := by decide +kernel
theorem dX5_cheapestCrew_95 : decode cX5_cheapestCrew 95 = .ok (.iconst 0, 1) := by decide +kernel
theorem dX5_cheapestCrew_96 : decode cX5_cheapestCrew 96 = .ok (.istore 10, 2) := by decide +kernel
theorem dX5_cheapestCrew_98 : decode cX5_cheapestCrew 98 = .ok (.iload 10, 2) := by decide +kernel
theorem dX5_cheapestCrew_100 : decode cX5_cheapestCrew 100 = .ok (.ifCond .eq 12, 3) := by decide +kernel
theorem dX5_cheapestCrew_103 : decode cX5_cheapestCrew 103 = .ok (.aload_n 1, 1) := by decide +kernel
theorem dX5_cheapestCrew_104 : decode cX5_cheapestCrew 104 = .ok (.iload 9, 2) := by decide +kernel
theorem dX5_cheapestCrew_106 : decode cX5_cheapestCrew 106 = .ok (.invokestatic 115, 3) := by decide +kernel
theorem dX5_cheapestCrew_109 : decode cX5_cheapestCrew 109 = .ok (.goto 4, 3) := by decide +kernel
theorem dX5_cheapestCrew_112 : decode cX5_cheapestCrew 112 = .ok (.lconst 0, 1) := by decide +kernel
theorem dX5_cheapestCrew_113 : decode cX5_cheapestCrew 113 = .ok (.lstore 11, 2) := by decide +kernel
theorem dX5_cheapestCrew_115 : decode cX5_cheapestCrew 115 = .ok (.iload 10, 2) := by decide +kernel
theorem dX5_cheapestCrew_117 : decode cX5_cheapestCrew 117 = .ok (.ifCond .eq 25, 3) := by decide +kernel
theorem dX5_cheapestCrew_120 : decode cX5_cheapestCrew 120 = .ok (.iload 6, 2) := by decide +kernel
theorem dX5_cheapestCrew_122 : decode cX5_cheapestCrew 122 = .ok (.iconst (-1), 1) := by decide +kernel
theorem dX5_cheapestCrew_123 : decode cX5_cheapestCrew 123 = .ok (.if_icmp .eq 11, 3) := by decide +kernel
theorem dX5_cheapestCrew_126 : decode cX5_cheapestCrew 126 = .ok (.lload 11, 2) := by decide +kernel
theorem dX5_cheapestCrew_128 : decode cX5_cheapestCrew 128 = .ok (.lload 7, 2) := by decide +kernel
theorem dX5_cheapestCrew_130 : decode cX5_cheapestCrew 130 = .ok (.lcmp, 1) := by decide +kernel
theorem dX5_cheapestCrew_131 : decode cX5_cheapestCrew 131 = .ok (.ifCond .ge 11, 3) := by decide +kernel
theorem dX5_cheapestCrew_134 : decode cX5_cheapestCrew 134 = .ok (.iload 9, 2) := by decide +kernel
theorem dX5_cheapestCrew_136 : decode cX5_cheapestCrew 136 = .ok (.istore 6, 2) := by decide +kernel
theorem dX5_cheapestCrew_138 : decode cX5_cheapestCrew 138 = .ok (.lload 11, 2) := by decide +kernel
theorem dX5_cheapestCrew_140 : decode cX5_cheapestCrew 140 = .ok (.lstore 7, 2) := by decide +kernel
theorem dX5_cheapestCrew_142 : decode cX5_cheapestCrew 142 = .ok (.iinc 9 1, 3) := by decide +kernel
theorem dX5_cheapestCrew_145 : decode cX5_cheapestCrew 145 = .ok (.goto (-89), 3) := by decide +kernel
theorem dX5_cheapestCrew_148 : decode cX5_cheapestCrew 148 = .ok (.iload 4, 2) := by decide +kernel
theorem dX5_cheapestCrew_150 : decode cX5_cheapestCrew 150 = .ok (.ifCond .eq 8, 3) := by decide +kernel
theorem dX5_cheapestCrew_153 : decode cX5_cheapestCrew 153 = .ok (.lload 7, 2) := by decide +kernel
theorem dX5_cheapestCrew_155 : decode cX5_cheapestCrew 155 = .ok (.goto 6, 3) := by decide +kernel
theorem dX5_cheapestCrew_158 : decode cX5_cheapestCrew 158 = .ok (.iload 6, 2) := by decide +kernel
theorem dX5_cheapestCrew_160 : decode cX5_cheapestCrew 160 = .ok (.i2l, 1) := by decide +kernel
theorem dX5_cheapestCrew_161 : decode cX5_cheapestCrew 161 = .ok (.lreturn, 1) := by decide +kernel
theorem dX5_partsOfSet_0 : decode cX5_partsOfSet 0 = .ok (.lconst 0, 1) := by decide +kernel
theorem dX5_partsOfSet_1 : decode cX5_partsOfSet 1 = .ok (.lstore_n 2, 1) := by decide +kernel
theorem dX5_partsOfSet_2 : decode cX5_partsOfSet 2 = .ok (.iconst 0, 1) := by decide +kernel
theorem dX5_partsOfSet_3 : decode cX5_partsOfSet 3 = .ok (.istore 4, 2) := by decide +kernel
theorem dX5_partsOfSet_5 : decode cX5_partsOfSet 5 = .ok (.iload 4, 2) := by decide +kernel
theorem dX5_partsOfSet_7 : decode cX5_partsOfSet 7 = .ok (.aload_n 0, 1) := by decide +kernel
theorem dX5_partsOfSet_8 : decode cX5_partsOfSet 8 = .ok (.getfield 98, 3) := by decide +kernel
theorem dX5_partsOfSet_11 : decode cX5_partsOfSet 11 = .ok (.if_icmp .ge 28, 3) := by decide +kernel
theorem dX5_partsOfSet_14 : decode cX5_partsOfSet 14 = .ok (.iload_n 1, 1) := by decide +kernel
theorem dX5_partsOfSet_15 : decode cX5_partsOfSet 15 = .ok (.iload 4, 2) := by decide +kernel
theorem dX5_partsOfSet_17 : decode cX5_partsOfSet 17 = .ok (.ishr, 1) := by decide +kernel
theorem dX5_partsOfSet_18 : decode cX5_partsOfSet 18 = .ok (.iconst 1, 1) := by decide +kernel
theorem dX5_partsOfSet_19 : decode cX5_partsOfSet 19 = .ok (.iand, 1) := by decide +kernel
theorem dX5_partsOfSet_20 : decode cX5_partsOfSet 20 = .ok (.iconst 1, 1) := by decide +kernel
theorem dX5_partsOfSet_21 : decode cX5_partsOfSet 21 = .ok (.if_icmp .ne 12, 3) := by decide +kernel
theorem dX5_partsOfSet_24 : decode cX5_partsOfSet 24 = .ok (.lload_n 2, 1) := by decide +kernel
theorem dX5_partsOfSet_25 : decode cX5_partsOfSet 25 = .ok (.aload_n 0, 1) := by decide +kernel
theorem dX5_partsOfSet_26 : decode cX5_partsOfSet 26 = .ok (.iload 4, 2) := by decide +kernel
theorem dX5_partsOfSet_28 : decode cX5_partsOfSet 28 = .ok (.invokevirtual 119, 3) := by decide +kernel
theorem dX5_partsOfSet_31 : decode cX5_partsOfSet 31 = .ok (.ladd, 1) := by decide +kernel
theorem dX5_partsOfSet_32 : decode cX5_partsOfSet 32 = .ok (.lstore_n 2, 1) := by decide +kernel
theorem dX5_partsOfSet_33 : decode cX5_partsOfSet 33 = .ok (.iinc 4 1, 3) := by decide +kernel
theorem dX5_partsOfSet_36 : decode cX5_partsOfSet 36 = .ok (.goto (-31), 3) := by decide +kernel
theorem dX5_partsOfSet_39 : decode cX5_partsOfSet 39 = .ok (.lload_n 2, 1) := by decide +kernel
theorem dX5_partsOfSet_40 : decode cX5_partsOfSet 40 = .ok (.lreturn, 1) := by decide +kernel
theorem dX5_weigh_0 : decode cX5_weigh 0 = .ok (.aload_n 1, 1) := by decide +kernel
theorem dX5_weigh_1 : decode cX5_weigh 1 = .ok (.aload_n 1, 1) := by decide +kernel
theorem dX5_weigh_2 : decode cX5_weigh 2 = .ok (.getfield 29, 3) := by decide +kernel
theorem dX5_weigh_5 : decode cX5_weigh 5 = .ok (.iconst 0, 1) := by decide +kernel
theorem dX5_weigh_6 : decode cX5_weigh 6 = .ok (.iaload, 1) := by decide +kernel
theorem dX5_weigh_7 : decode cX5_weigh 7 = .ok (.invokevirtual 78, 3) := by decide +kernel
theorem dX5_weigh_10 : decode cX5_weigh 10 = .ok (.istore_n 2, 1) := by decide +kernel
theorem dX5_weigh_11 : decode cX5_weigh 11 = .ok (.aload_n 0, 1) := by decide +kernel
theorem dX5_weigh_12 : decode cX5_weigh 12 = .ok (.iconst 0, 1) := by decide +kernel
theorem dX5_weigh_13 : decode cX5_weigh 13 = .ok (.putfield 123, 3) := by decide +kernel
theorem dX5_weigh_16 : decode cX5_weigh 16 = .ok (.aload_n 0, 1) := by decide +kernel
theorem dX5_weigh_17 : decode cX5_weigh 17 = .ok (.aload_n 1, 1) := by decide +kernel
theorem dX5_weigh_18 : decode cX5_weigh 18 = .ok (.getfield 29, 3) := by decide +kernel
theorem dX5_weigh_21 : decode cX5_weigh 21 = .ok (.iconst 1, 1) := by decide +kernel
theorem dX5_weigh_22 : decode cX5_weigh 22 = .ok (.iaload, 1) := by decide +kernel
theorem dX5_weigh_23 : decode cX5_weigh 23 = .ok (.putfield 126, 3) := by decide +kernel
theorem dX5_weigh_26 : decode cX5_weigh 26 = .ok (.iconst 0, 1) := by decide +kernel
theorem dX5_weigh_27 : decode cX5_weigh 27 = .ok (.istore_n 3, 1) := by decide +kernel
theorem dX5_weigh_28 : decode cX5_weigh 28 = .ok (.iload_n 3, 1) := by decide +kernel
theorem dX5_weigh_29 : decode cX5_weigh 29 = .ok (.aload_n 1, 1) := by decide +kernel
theorem dX5_weigh_30 : decode cX5_weigh 30 = .ok (.getfield 129, 3) := by decide +kernel
theorem dX5_weigh_33 : decode cX5_weigh 33 = .ok (.if_icmp .ge 107, 3) := by decide +kernel
theorem dX5_weigh_36 : decode cX5_weigh 36 = .ok (.aload_n 1, 1) := by decide +kernel
theorem dX5_weigh_37 : decode cX5_weigh 37 = .ok (.getfield 101, 3) := by decide +kernel
theorem dX5_weigh_40 : decode cX5_weigh 40 = .ok (.aload_n 1, 1) := by decide +kernel
theorem dX5_weigh_41 : decode cX5_weigh 41 = .ok (.getfield 132, 3) := by decide +kernel
theorem dX5_weigh_44 : decode cX5_weigh 44 = .ok (.iload_n 3, 1) := by decide +kernel
theorem dX5_weigh_45 : decode cX5_weigh 45 = .ok (.iaload, 1) := by decide +kernel
theorem dX5_weigh_46 : decode cX5_weigh 46 = .ok (.iaload, 1) := by decide +kernel
theorem dX5_weigh_47 : decode cX5_weigh 47 = .ok (.istore 4, 2) := by decide +kernel
theorem dX5_weigh_49 : decode cX5_weigh 49 = .ok (.aload_n 1, 1) := by decide +kernel
theorem dX5_weigh_50 : decode cX5_weigh 50 = .ok (.getfield 135, 3) := by decide +kernel
theorem dX5_weigh_53 : decode cX5_weigh 53 = .ok (.iload_n 3, 1) := by decide +kernel
theorem dX5_weigh_54 : decode cX5_weigh 54 = .ok (.iaload, 1) := by decide +kernel
theorem dX5_weigh_55 : decode cX5_weigh 55 = .ok (.iload 4, 2) := by decide +kernel
theorem dX5_weigh_57 : decode cX5_weigh 57 = .ok (.imul, 1) := by decide +kernel
theorem dX5_weigh_58 : decode cX5_weigh 58 = .ok (.aload_n 1, 1) := by decide +kernel
theorem dX5_weigh_59 : decode cX5_weigh 59 = .ok (.getfield 138, 3) := by decide +kernel
theorem dX5_weigh_62 : decode cX5_weigh 62 = .ok (.isub, 1) := by decide +kernel
theorem dX5_weigh_63 : decode cX5_weigh 63 = .ok (.istore 5, 2) := by decide +kernel
theorem dX5_weigh_65 : decode cX5_weigh 65 = .ok (.iload 5, 2) := by decide +kernel
theorem dX5_weigh_67 : decode cX5_weigh 67 = .ok (.iload 4, 2) := by decide +kernel
theorem dX5_weigh_69 : decode cX5_weigh 69 = .ok (.iadd, 1) := by decide +kernel
theorem dX5_weigh_70 : decode cX5_weigh 70 = .ok (.iconst 1, 1) := by decide +kernel
theorem dX5_weigh_71 : decode cX5_weigh 71 = .ok (.isub, 1) := by decide +kernel
theorem dX5_weigh_72 : decode cX5_weigh 72 = .ok (.istore 6, 2) := by decide +kernel
theorem dX5_weigh_74 : decode cX5_weigh 74 = .ok (.iload_n 2, 1) := by decide +kernel
theorem dX5_weigh_75 : decode cX5_weigh 75 = .ok (.ifCond .le 44, 3) := by decide +kernel
theorem dX5_weigh_78 : decode cX5_weigh 78 = .ok (.aload_n 0, 1) := by decide +kernel
theorem dX5_weigh_79 : decode cX5_weigh 79 = .ok (.aload_n 0, 1) := by decide +kernel
theorem dX5_weigh_80 : decode cX5_weigh 80 = .ok (.getfield 123, 3) := by decide +kernel
theorem dX5_weigh_83 : decode cX5_weigh 83 = .ok (.iload 5, 2) := by decide +kernel
theorem dX5_weigh_85 : decode cX5_weigh 85 = .ok (.iload_n 2, 1) := by decide +kernel
theorem dX5_weigh_86 : decode cX5_weigh 86 = .ok (.iadd, 1) := by decide +kernel
theorem dX5_weigh_87 : decode cX5_weigh 87 = .ok (.iconst 1, 1) := by decide +kernel
theorem dX5_weigh_88 : decode cX5_weigh 88 = .ok (.isub, 1) := by decide +kernel
theorem dX5_weigh_89 : decode cX5_weigh 89 = .ok (.iload_n 2, 1) := by decide +kernel
theorem dX5_weigh_90 : decode cX5_weigh 90 = .ok (.invokestatic 141, 3) := by decide +kernel
theorem dX5_weigh_93 : decode cX5_weigh 93 = .ok (.invokestatic 87, 3) := by decide +kernel
theorem dX5_weigh_96 : decode cX5_weigh 96 = .ok (.putfield 123, 3) := by decide +kernel
theorem dX5_weigh_99 : decode cX5_weigh 99 = .ok (.aload_n 0, 1) := by decide +kernel
theorem dX5_weigh_100 : decode cX5_weigh 100 = .ok (.aload_n 0, 1) := by decide +kernel
theorem dX5_weigh_101 : decode cX5_weigh 101 = .ok (.getfield 126, 3) := by decide +kernel
theorem dX5_weigh_104 : decode cX5_weigh 104 = .ok (.iload 6, 2) := by decide +kernel
theorem dX5_weigh_106 : decode cX5_weigh 106 = .ok (.iload_n 2, 1) := by decide +kernel
theorem dX5_weigh_107 : decode cX5_weigh 107 = .ok (.invokestatic 141, 3) := by decide +kernel
theorem dX5_weigh_110 : decode cX5_weigh 110 = .ok (.invokestatic 34, 3) := by decide +kernel
theorem dX5_weigh_113 : decode cX5_weigh 113 = .ok (.putfield 126, 3) := by decide +kernel
theorem dX5_weigh_116 : decode cX5_weigh 116 = .ok (.goto 18, 3) := by decide +kernel
theorem dX5_weigh_119 : decode cX5_weigh 119 = .ok (.iload 5, 2) := by decide +kernel
theorem dX5_weigh_121 : decode cX5_weigh 121 = .ok (.ifCond .gt 8, 3) := by decide +kernel
theorem dX5_weigh_124 : decode cX5_weigh 124 = .ok (.iload 6, 2) := by decide +kernel
theorem dX5_weigh_126 : decode cX5_weigh 126 = .ok (.ifCond .ge 8, 3) := by decide +kernel
theorem dX5_weigh_129 : decode cX5_weigh 129 = .ok (.aload_n 0, 1) := by decide +kernel
theorem dX5_weigh_130 : decode cX5_weigh 130 = .ok (.iconst (-1), 1) := by decide +kernel
theorem dX5_weigh_131 : decode cX5_weigh 131 = .ok (.putfield 126, 3) := by decide +kernel
theorem dX5_weigh_134 : decode cX5_weigh 134 = .ok (.iinc 3 1, 3) := by decide +kernel
theorem dX5_weigh_137 : decode cX5_weigh 137 = .ok (.goto (-109), 3) := by decide +kernel
theorem dX5_weigh_140 : decode cX5_weigh 140 = .ok (.return_, 1) := by decide +kernel
theorem dX5_toAsk_0 : decode cX5_toAsk 0 = .ok (.aload_n 0, 1) := by decide +kernel
theorem dX5_toAsk_1 : decode cX5_toAsk 1 = .ok (.aload_n 1, 1) := by decide +kernel
theorem dX5_toAsk_2 : decode cX5_toAsk 2 = .ok (.invokevirtual 144, 3) := by decide +kernel
theorem dX5_toAsk_5 : decode cX5_toAsk 5 = .ok (.aload_n 0, 1) := by decide +kernel
theorem dX5_toAsk_6 : decode cX5_toAsk 6 = .ok (.getfield 123, 3) := by decide +kernel
theorem dX5_toAsk_9 : decode cX5_toAsk 9 = .ok (.aload_n 0, 1) := by decide +kernel
theorem dX5_toAsk_10 : decode cX5_toAsk 10 = .ok (.getfield 126, 3) := by decide +kernel
theorem dX5_toAsk_13 : decode cX5_toAsk 13 = .ok (.if_icmp .le 5, 3) := by decide +kernel
theorem dX5_toAsk_16 : decode cX5_toAsk 16 = .ok (.iconst (-1), 1) := by decide +kernel
theorem dX5_toAsk_17 : decode cX5_toAsk 17 = .ok (.ireturn, 1) := by decide +kernel
theorem dX5_toAsk_18 : decode cX5_toAsk 18 = .ok (.iconst (-1), 1) := by decide +kernel
theorem dX5_toAsk_19 : decode cX5_toAsk 19 = .ok (.istore_n 3, 1) := by decide +kernel
theorem dX5_toAsk_20 : decode cX5_toAsk 20 = .ok (.iconst (-1), 1) := by decide +kernel
theorem dX5_toAsk_21 : decode cX5_toAsk 21 = .ok (.istore 4, 2) := by decide +kernel
theorem dX5_toAsk_23 : decode cX5_toAsk 23 = .ok (.iconst 0, 1) := by decide +kernel
theorem dX5_toAsk_24 : decode cX5_toAsk 24 = .ok (.istore 5, 2) := by decide +kernel
theorem dX5_toAsk_26 : decode cX5_toAsk 26 = .ok (.iload 5, 2) := by decide +kernel
theorem dX5_toAsk_28 : decode cX5_toAsk 28 = .ok (.aload_n 1, 1) := by decide +kernel
theorem dX5_toAsk_29 : decode cX5_toAsk 29 = .ok (.getfield 98, 3) := by decide +kernel
theorem dX5_toAsk_32 : decode cX5_toAsk 32 = .ok (.if_icmp .ge 37, 3) := by decide +kernel
theorem dX5_toAsk_35 : decode cX5_toAsk 35 = .ok (.aload_n 0, 1) := by decide +kernel
theorem dX5_toAsk_36 : decode cX5_toAsk 36 = .ok (.aload_n 1, 1) := by decide +kernel
theorem dX5_toAsk_37 : decode cX5_toAsk 37 = .ok (.iload 5, 2) := by decide +kernel
theorem dX5_toAsk_39 : decode cX5_toAsk 39 = .ok (.invokevirtual 147, 3) := by decide +kernel
theorem dX5_toAsk_42 : decode cX5_toAsk 42 = .ok (.istore 6, 2) := by decide +kernel
theorem dX5_toAsk_44 : decode cX5_toAsk 44 = .ok (.iload_n 3, 1) := by decide +kernel
theorem dX5_toAsk_45 : decode cX5_toAsk 45 = .ok (.iconst (-1), 1) := by decide +kernel
theorem dX5_toAsk_46 : decode cX5_toAsk 46 = .ok (.if_icmp .eq 10, 3) := by decide +kernel
theorem dX5_toAsk_49 : decode cX5_toAsk 49 = .ok (.iload 6, 2) := by decide +kernel
theorem dX5_toAsk_51 : decode cX5_toAsk 51 = .ok (.iload 4, 2) := by decide +kernel
theorem dX5_toAsk_53 : decode cX5_toAsk 53 = .ok (.if_icmp .ge 10, 3) := by decide +kernel
theorem dX5_toAsk_56 : decode cX5_toAsk 56 = .ok (.iload 5, 2) := by decide +kernel
theorem dX5_toAsk_58 : decode cX5_toAsk 58 = .ok (.istore_n 3, 1) := by decide +kernel
theorem dX5_toAsk_59 : decode cX5_toAsk 59 = .ok (.iload 6, 2) := by decide +kernel
theorem dX5_toAsk_61 : decode cX5_toAsk 61 = .ok (.istore 4, 2) := by decide +kernel
theorem dX5_toAsk_63 : decode cX5_toAsk 63 = .ok (.iinc 5 1, 3) := by decide +kernel
theorem dX5_toAsk_66 : decode cX5_toAsk 66 = .ok (.goto (-40), 3) := by decide +kernel
theorem dX5_toAsk_69 : decode cX5_toAsk 69 = .ok (.iload_n 2, 1) := by decide +kernel
theorem dX5_toAsk_70 : decode cX5_toAsk 70 = .ok (.ifCond .eq 8, 3) := by decide +kernel
theorem dX5_toAsk_73 : decode cX5_toAsk 73 = .ok (.iload 4, 2) := by decide +kernel
theorem dX5_toAsk_75 : decode cX5_toAsk 75 = .ok (.goto 4, 3) := by decide +kernel
theorem dX5_toAsk_78 : decode cX5_toAsk 78 = .ok (.iload_n 3, 1) := by decide +kernel
theorem dX5_toAsk_79 : decode cX5_toAsk 79 = .ok (.ireturn, 1) := by decide +kernel
theorem dX5_mostAlike_0 : decode cX5_mostAlike 0 = .ok (.aload_n 1, 1) := by decide +kernel
theorem dX5_mostAlike_1 : decode cX5_mostAlike 1 = .ok (.aload_n 1, 1) := by decide +kernel
theorem dX5_mostAlike_2 : decode cX5_mostAlike 2 = .ok (.getfield 29, 3) := by decide +kernel
theorem dX5_mostAlike_5 : decode cX5_mostAlike 5 = .ok (.iconst 0, 1) := by decide +kernel
theorem dX5_mostAlike_6 : decode cX5_mostAlike 6 = .ok (.iaload, 1) := by decide +kernel
theorem dX5_mostAlike_7 : decode cX5_mostAlike 7 = .ok (.invokevirtual 78, 3) := by decide +kernel
theorem dX5_mostAlike_10 : decode cX5_mostAlike 10 = .ok (.istore_n 3, 1) := by decide +kernel
theorem dX5_mostAlike_11 : decode cX5_mostAlike 11 = .ok (.iconst 0, 1) := by decide +kernel
theorem dX5_mostAlike_12 : decode cX5_mostAlike 12 = .ok (.istore 4, 2) := by decide +kernel
theorem dX5_mostAlike_14 : decode cX5_mostAlike 14 = .ok (.iconst 0, 1) := by decide +kernel
theorem dX5_mostAlike_15 : decode cX5_mostAlike 15 = .ok (.istore 5, 2) := by decide +kernel
theorem dX5_mostAlike_17 : decode cX5_mostAlike 17 = .ok (.iconst (-1), 1) := by decide +kernel
theorem dX5_mostAlike_18 : decode cX5_mostAlike 18 = .ok (.istore 6, 2) := by decide +kernel
theorem dX5_mostAlike_20 : decode cX5_mostAlike 20 = .ok (.aload_n 0, 1) := by decide +kernel
theorem dX5_mostAlike_21 : decode cX5_mostAlike 21 = .ok (.getfield 123, 3) := by decide +kernel
theorem dX5_mostAlike_24 : decode cX5_mostAlike 24 = .ok (.istore 7, 2) := by decide +kernel
theorem dX5_mostAlike_26 : decode cX5_mostAlike 26 = .ok (.iload 7, 2) := by decide +kernel
theorem dX5_mostAlike_28 : decode cX5_mostAlike 28 = .ok (.aload_n 0, 1) := by decide +kernel
theorem dX5_mostAlike_29 : decode cX5_mostAlike 29 = .ok (.getfield 126, 3) := by decide +kernel
theorem dX5_mostAlike_32 : decode cX5_mostAlike 32 = .ok (.if_icmp .gt 55, 3) := by decide +kernel
theorem dX5_mostAlike_35 : decode cX5_mostAlike 35 = .ok (.aload_n 1, 1) := by decide +kernel
theorem dX5_mostAlike_36 : decode cX5_mostAlike 36 = .ok (.iload_n 2, 1) := by decide +kernel
theorem dX5_mostAlike_37 : decode cX5_mostAlike 37 = .ok (.aload_n 1, 1) := by decide +kernel
theorem dX5_mostAlike_38 : decode cX5_mostAlike 38 = .ok (.getfield 138, 3) := by decide +kernel
theorem dX5_mostAlike_41 : decode cX5_mostAlike 41 = .ok (.iload 7, 2) := by decide +kernel
theorem dX5_mostAlike_43 : decode cX5_mostAlike 43 = .ok (.iload_n 3, 1) := by decide +kernel
theorem dX5_mostAlike_44 : decode cX5_mostAlike 44 = .ok (.imul, 1) := by decide +kernel
theorem dX5_mostAlike_45 : decode cX5_mostAlike 45 = .ok (.iadd, 1) := by decide +kernel
theorem dX5_mostAlike_46 : decode cX5_mostAlike 46 = .ok (.invokevirtual 151, 3) := by decide +kernel
theorem dX5_mostAlike_49 : decode cX5_mostAlike 49 = .ok (.istore 8, 2) := by decide +kernel
theorem dX5_mostAlike_51 : decode cX5_mostAlike 51 = .ok (.iload 8, 2) := by decide +kernel
theorem dX5_mostAlike_53 : decode cX5_mostAlike 53 = .ok (.iload 6, 2) := by decide +kernel
theorem dX5_mostAlike_55 : decode cX5_mostAlike 55 = .ok (.if_icmp .ne 10, 3) := by decide +kernel
theorem dX5_mostAlike_58 : decode cX5_mostAlike 58 = .ok (.iload 5, 2) := by decide +kernel
theorem dX5_mostAlike_60 : decode cX5_mostAlike 60 = .ok (.iconst 1, 1) := by decide +kernel
theorem dX5_mostAlike_61 : decode cX5_mostAlike 61 = .ok (.iadd, 1) := by decide +kernel
theorem dX5_mostAlike_62 : decode cX5_mostAlike 62 = .ok (.goto 4, 3) := by decide +kernel
theorem dX5_mostAlike_65 : decode cX5_mostAlike 65 = .ok (.iconst 1, 1) := by decide +kernel
theorem dX5_mostAlike_66 : decode cX5_mostAlike 66 = .ok (.istore 5, 2) := by decide +kernel
theorem dX5_mostAlike_68 : decode cX5_mostAlike 68 = .ok (.iload 8, 2) := by decide +kernel
theorem dX5_mostAlike_70 : decode cX5_mostAlike 70 = .ok (.istore 6, 2) := by decide +kernel
theorem dX5_mostAlike_72 : decode cX5_mostAlike 72 = .ok (.iload 4, 2) := by decide +kernel
theorem dX5_mostAlike_74 : decode cX5_mostAlike 74 = .ok (.iload 5, 2) := by decide +kernel
theorem dX5_mostAlike_76 : decode cX5_mostAlike 76 = .ok (.invokestatic 87, 3) := by decide +kernel
theorem dX5_mostAlike_79 : decode cX5_mostAlike 79 = .ok (.istore 4, 2) := by decide +kernel
theorem dX5_mostAlike_81 : decode cX5_mostAlike 81 = .ok (.iinc 7 1, 3) := by decide +kernel
theorem dX5_mostAlike_84 : decode cX5_mostAlike 84 = .ok (.goto (-58), 3) := by decide +kernel
theorem dX5_mostAlike_87 : decode cX5_mostAlike 87 = .ok (.iload 4, 2) := by decide +kernel
theorem dX5_mostAlike_89 : decode cX5_mostAlike 89 = .ok (.ireturn, 1) := by decide +kernel
theorem dX6_init_0 : decode cX6_init 0 = .ok (.aload_n 0, 1) := by decide +kernel
theorem dX6_init_1 : decode cX6_init 1 = .ok (.invokespecial 3, 3) := by decide +kernel
theorem dX6_init_4 : decode cX6_init 4 = .ok (.aload_n 0, 1) := by decide +kernel
theorem dX6_init_5 : decode cX6_init 5 = .ok (.sipush 401, 3) := by decide +kernel
theorem dX6_init_8 : decode cX6_init 8 = .ok (.newarray .int, 2) := by decide +kernel
theorem dX6_init_10 : decode cX6_init 10 = .ok (.putfield 9, 3) := by decide +kernel
theorem dX6_init_13 : decode cX6_init 13 = .ok (.aload_n 0, 1) := by decide +kernel
theorem dX6_init_14 : decode cX6_init 14 = .ok (.sipush 401, 3) := by decide +kernel
theorem dX6_init_17 : decode cX6_init 17 = .ok (.newarray .int, 2) := by decide +kernel
theorem dX6_init_19 : decode cX6_init 19 = .ok (.putfield 15, 3) := by decide +kernel
theorem dX6_init_22 : decode cX6_init 22 = .ok (.aload_n 0, 1) := by decide +kernel
theorem dX6_init_23 : decode cX6_init 23 = .ok (.sipush 401, 3) := by decide +kernel
theorem dX6_init_26 : decode cX6_init 26 = .ok (.newarray .int, 2) := by decide +kernel
theorem dX6_init_28 : decode cX6_init 28 = .ok (.putfield 18, 3) := by decide +kernel
theorem dX6_init_31 : decode cX6_init 31 = .ok (.aload_n 0, 1) := by decide +kernel
theorem dX6_init_32 : decode cX6_init 32 = .ok (.new 21, 3) := by decide +kernel
theorem dX6_init_35 : decode cX6_init 35 = .ok (.dup, 1) := by decide +kernel
theorem dX6_init_36 : decode cX6_init 36 = .ok (.bipush 12, 2) := by decide +kernel
theorem dX6_init_38 : decode cX6_init 38 = .ok (.sipush 400, 3) := by decide +kernel
theorem dX6_init_41 : decode cX6_init 41 = .ok (.invokespecial 23, 3) := by decide +kernel
theorem dX6_init_44 : decode cX6_init 44 = .ok (.putfield 26, 3) := by decide +kernel
theorem dX6_init_47 : decode cX6_init 47 = .ok (.return_, 1) := by decide +kernel
theorem dX6_read_0 : decode cX6_read 0 = .ok (.aload_n 0, 1) := by decide +kernel
theorem dX6_read_1 : decode cX6_read 1 = .ok (.aload_n 1, 1) := by decide +kernel
theorem dX6_read_2 : decode cX6_read 2 = .ok (.iload_n 2, 1) := by decide +kernel
theorem dX6_read_3 : decode cX6_read 3 = .ok (.sipush 400, 3) := by decide +kernel
theorem dX6_read_6 : decode cX6_read 6 = .ok (.invokestatic 30, 3) := by decide +kernel
theorem dX6_read_9 : decode cX6_read 9 = .ok (.invokevirtual 36, 3) := by decide +kernel
theorem dX6_read_12 : decode cX6_read 12 = .ok (.aload_n 0, 1) := by decide +kernel
theorem dX6_read_13 : decode cX6_read 13 = .ok (.getfield 26, 3) := by decide +kernel
theorem dX6_read_16 : decode cX6_read 16 = .ok (.invokevirtual 40, 3) := by decide +kernel
theorem dX6_read_19 : decode cX6_read 19 = .ok (.aload_n 0, 1) := by decide +kernel
theorem dX6_read_20 : decode cX6_read 20 = .ok (.iload_n 3, 1) := by decide +kernel
theorem dX6_read_21 : decode cX6_read 21 = .ok (.putfield 43, 3) := by decide +kernel
theorem dX6_read_24 : decode cX6_read 24 = .ok (.aload_n 0, 1) := by decide +kernel
theorem dX6_read_25 : decode cX6_read 25 = .ok (.iconst 0, 1) := by decide +kernel
theorem dX6_read_26 : decode cX6_read 26 = .ok (.putfield 47, 3) := by decide +kernel
theorem dX6_read_29 : decode cX6_read 29 = .ok (.aload_n 0, 1) := by decide +kernel
theorem dX6_read_30 : decode cX6_read 30 = .ok (.iconst (-1), 1) := by decide +kernel
theorem dX6_read_31 : decode cX6_read 31 = .ok (.putfield 51, 3) := by decide +kernel
theorem dX6_read_34 : decode cX6_read 34 = .ok (.aload_n 0, 1) := by decide +kernel
theorem dX6_read_35 : decode cX6_read 35 = .ok (.iconst 0, 1) := by decide +kernel
theorem dX6_read_36 : decode cX6_read 36 = .ok (.putfield 54, 3) := by decide +kernel
theorem dX6_read_39 : decode cX6_read 39 = .ok (.aload_n 0, 1) := by decide +kernel
theorem dX6_read_40 : decode cX6_read 40 = .ok (.iconst 0, 1) := by decide +kernel
theorem dX6_read_41 : decode cX6_read 41 = .ok (.putfield 57, 3) := by decide +kernel
theorem dX6_read_44 : decode cX6_read 44 = .ok (.iconst 1, 1) := by decide +kernel
