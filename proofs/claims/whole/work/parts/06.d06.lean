theorem dX11_lies_0 : decode cX11_lies 0 = .ok (.iload_n 0, 1) := by decide +kernel
theorem dX11_lies_1 : decode cX11_lies 1 = .ok (.iload_n 1, 1) := by decide +kernel
theorem dX11_lies_2 : decode cX11_lies 2 = .ok (.if_icmp .lt 12, 3) := by decide +kernel
theorem dX11_lies_5 : decode cX11_lies 5 = .ok (.iload_n 0, 1) := by decide +kernel
theorem dX11_lies_6 : decode cX11_lies 6 = .ok (.iload_n 2, 1) := by decide +kernel
theorem dX11_lies_7 : decode cX11_lies 7 = .ok (.if_icmp .gt 7, 3) := by decide +kernel
theorem dX11_lies_10 : decode cX11_lies 10 = .ok (.iconst 1, 1) := by decide +kernel
theorem dX11_lies_11 : decode cX11_lies 11 = .ok (.goto 4, 3) := by decide +kernel
theorem dX11_lies_14 : decode cX11_lies 14 = .ok (.iconst 0, 1) := by decide +kernel
theorem dX11_lies_15 : decode cX11_lies 15 = .ok (.ireturn, 1) := by decide +kernel
theorem dX11_refuses_0 : decode cX11_refuses 0 = .ok (.aload_n 0, 1) := by decide +kernel
theorem dX11_refuses_1 : decode cX11_refuses 1 = .ok (.iload_n 1, 1) := by decide +kernel
theorem dX11_refuses_2 : decode cX11_refuses 2 = .ok (.putfield 3, 3) := by decide +kernel
theorem dX11_refuses_5 : decode cX11_refuses 5 = .ok (.aload_n 0, 1) := by decide +kernel
theorem dX11_refuses_6 : decode cX11_refuses 6 = .ok (.getfield 7, 3) := by decide +kernel
theorem dX11_refuses_9 : decode cX11_refuses 9 = .ok (.iload_n 1, 1) := by decide +kernel
theorem dX11_refuses_10 : decode cX11_refuses 10 = .ok (.ineg, 1) := by decide +kernel
theorem dX11_refuses_11 : decode cX11_refuses 11 = .ok (.dup2, 1) := by decide +kernel
theorem dX11_refuses_12 : decode cX11_refuses 12 = .ok (.iaload, 1) := by decide +kernel
theorem dX11_refuses_13 : decode cX11_refuses 13 = .ok (.iconst 1, 1) := by decide +kernel
theorem dX11_refuses_14 : decode cX11_refuses 14 = .ok (.iadd, 1) := by decide +kernel
theorem dX11_refuses_15 : decode cX11_refuses 15 = .ok (.iastore, 1) := by decide +kernel
theorem dX11_refuses_16 : decode cX11_refuses 16 = .ok (.iload_n 1, 1) := by decide +kernel
theorem dX11_refuses_17 : decode cX11_refuses 17 = .ok (.ireturn, 1) := by decide +kernel
theorem dX11_good_0 : decode cX11_good 0 = .ok (.aload_n 0, 1) := by decide +kernel
theorem dX11_good_1 : decode cX11_good 1 = .ok (.iconst 0, 1) := by decide +kernel
theorem dX11_good_2 : decode cX11_good 2 = .ok (.putfield 3, 3) := by decide +kernel
theorem dX11_good_5 : decode cX11_good 5 = .ok (.iload_n 1, 1) := by decide +kernel
theorem dX11_good_6 : decode cX11_good 6 = .ok (.ireturn, 1) := by decide +kernel
theorem dX11_settled_0 : decode cX11_settled 0 = .ok (.aload_n 0, 1) := by decide +kernel
theorem dX11_settled_1 : decode cX11_settled 1 = .ok (.iconst 0, 1) := by decide +kernel
theorem dX11_settled_2 : decode cX11_settled 2 = .ok (.putfield 11, 3) := by decide +kernel
theorem dX11_settled_5 : decode cX11_settled 5 = .ok (.aload_n 0, 1) := by decide +kernel
theorem dX11_settled_6 : decode cX11_settled 6 = .ok (.iload_n 1, 1) := by decide +kernel
theorem dX11_settled_7 : decode cX11_settled 7 = .ok (.invokevirtual 14, 3) := by decide +kernel
theorem dX11_settled_10 : decode cX11_settled 10 = .ok (.ireturn, 1) := by decide +kernel
theorem dX11_isIn_0 : decode cX11_isIn 0 = .ok (.iload_n 0, 1) := by decide +kernel
theorem dX11_isIn_1 : decode cX11_isIn 1 = .ok (.iload_n 1, 1) := by decide +kernel
theorem dX11_isIn_2 : decode cX11_isIn 2 = .ok (.ishr, 1) := by decide +kernel
theorem dX11_isIn_3 : decode cX11_isIn 3 = .ok (.iconst 1, 1) := by decide +kernel
theorem dX11_isIn_4 : decode cX11_isIn 4 = .ok (.iand, 1) := by decide +kernel
theorem dX11_isIn_5 : decode cX11_isIn 5 = .ok (.iconst 1, 1) := by decide +kernel
theorem dX11_isIn_6 : decode cX11_isIn 6 = .ok (.if_icmp .ne 7, 3) := by decide +kernel
theorem dX11_isIn_9 : decode cX11_isIn 9 = .ok (.iconst 1, 1) := by decide +kernel
theorem dX11_isIn_10 : decode cX11_isIn 10 = .ok (.goto 4, 3) := by decide +kernel
theorem dX11_isIn_13 : decode cX11_isIn 13 = .ok (.iconst 0, 1) := by decide +kernel
theorem dX11_isIn_14 : decode cX11_isIn 14 = .ok (.ireturn, 1) := by decide +kernel
theorem dX11_ones_0 : decode cX11_ones 0 = .ok (.iconst 0, 1) := by decide +kernel
theorem dX11_ones_1 : decode cX11_ones 1 = .ok (.istore_n 1, 1) := by decide +kernel
theorem dX11_ones_2 : decode cX11_ones 2 = .ok (.iconst 0, 1) := by decide +kernel
theorem dX11_ones_3 : decode cX11_ones 3 = .ok (.istore_n 2, 1) := by decide +kernel
theorem dX11_ones_4 : decode cX11_ones 4 = .ok (.iload_n 2, 1) := by decide +kernel
theorem dX11_ones_5 : decode cX11_ones 5 = .ok (.bipush 8, 2) := by decide +kernel
theorem dX11_ones_7 : decode cX11_ones 7 = .ok (.if_icmp .ge 17, 3) := by decide +kernel
theorem dX11_ones_10 : decode cX11_ones 10 = .ok (.iload_n 1, 1) := by decide +kernel
theorem dX11_ones_11 : decode cX11_ones 11 = .ok (.iload_n 0, 1) := by decide +kernel
theorem dX11_ones_12 : decode cX11_ones 12 = .ok (.iload_n 2, 1) := by decide +kernel
theorem dX11_ones_13 : decode cX11_ones 13 = .ok (.ishr, 1) := by decide +kernel
theorem dX11_ones_14 : decode cX11_ones 14 = .ok (.iconst 1, 1) := by decide +kernel
theorem dX11_ones_15 : decode cX11_ones 15 = .ok (.iand, 1) := by decide +kernel
theorem dX11_ones_16 : decode cX11_ones 16 = .ok (.iadd, 1) := by decide +kernel
theorem dX11_ones_17 : decode cX11_ones 17 = .ok (.istore_n 1, 1) := by decide +kernel
theorem dX11_ones_18 : decode cX11_ones 18 = .ok (.iinc 2 1, 3) := by decide +kernel
theorem dX11_ones_21 : decode cX11_ones 21 = .ok (.goto (-17), 3) := by decide +kernel
theorem dX11_ones_24 : decode cX11_ones 24 = .ok (.iload_n 1, 1) := by decide +kernel
theorem dX11_ones_25 : decode cX11_ones 25 = .ok (.ireturn, 1) := by decide +kernel
theorem dX11_lesser_0 : decode cX11_lesser 0 = .ok (.iload_n 0, 1) := by decide +kernel
theorem dX11_lesser_1 : decode cX11_lesser 1 = .ok (.iload_n 1, 1) := by decide +kernel
theorem dX11_lesser_2 : decode cX11_lesser 2 = .ok (.if_icmp .ge 7, 3) := by decide +kernel
theorem dX11_lesser_5 : decode cX11_lesser 5 = .ok (.iload_n 0, 1) := by decide +kernel
theorem dX11_lesser_6 : decode cX11_lesser 6 = .ok (.goto 4, 3) := by decide +kernel
theorem dX11_lesser_9 : decode cX11_lesser 9 = .ok (.iload_n 1, 1) := by decide +kernel
theorem dX11_lesser_10 : decode cX11_lesser 10 = .ok (.ireturn, 1) := by decide +kernel
theorem dX11_greater_0 : decode cX11_greater 0 = .ok (.iload_n 0, 1) := by decide +kernel
theorem dX11_greater_1 : decode cX11_greater 1 = .ok (.iload_n 1, 1) := by decide +kernel
theorem dX11_greater_2 : decode cX11_greater 2 = .ok (.if_icmp .le 7, 3) := by decide +kernel
theorem dX11_greater_5 : decode cX11_greater 5 = .ok (.iload_n 0, 1) := by decide +kernel
theorem dX11_greater_6 : decode cX11_greater 6 = .ok (.goto 4, 3) := by decide +kernel
theorem dX11_greater_9 : decode cX11_greater 9 = .ok (.iload_n 1, 1) := by decide +kernel
theorem dX11_greater_10 : decode cX11_greater 10 = .ok (.ireturn, 1) := by decide +kernel
theorem dX11_init_0 : decode cX11_init 0 = .ok (.aload_n 0, 1) := by decide +kernel
theorem dX11_init_1 : decode cX11_init 1 = .ok (.invokespecial 18, 3) := by decide +kernel
theorem dX11_init_4 : decode cX11_init 4 = .ok (.aload_n 0, 1) := by decide +kernel
theorem dX11_init_5 : decode cX11_init 5 = .ok (.bipush 7, 2) := by decide +kernel
theorem dX11_init_7 : decode cX11_init 7 = .ok (.newarray .int, 2) := by decide +kernel
theorem dX11_init_9 : decode cX11_init 9 = .ok (.putfield 7, 3) := by decide +kernel
theorem dX11_init_12 : decode cX11_init 12 = .ok (.aload_n 0, 1) := by decide +kernel
theorem dX11_init_13 : decode cX11_init 13 = .ok (.sipush 5687, 3) := by decide +kernel
theorem dX11_init_16 : decode cX11_init 16 = .ok (.newarray .int, 2) := by decide +kernel
theorem dX11_init_18 : decode cX11_init 18 = .ok (.putfield 24, 3) := by decide +kernel
theorem dX11_init_21 : decode cX11_init 21 = .ok (.aload_n 0, 1) := by decide +kernel
theorem dX11_init_22 : decode cX11_init 22 = .ok (.sipush 11374, 3) := by decide +kernel
theorem dX11_init_25 : decode cX11_init 25 = .ok (.newarray .int, 2) := by decide +kernel
theorem dX11_init_27 : decode cX11_init 27 = .ok (.putfield 27, 3) := by decide +kernel
theorem dX11_init_30 : decode cX11_init 30 = .ok (.aload_n 0, 1) := by decide +kernel
theorem dX11_init_31 : decode cX11_init 31 = .ok (.iconst 2, 1) := by decide +kernel
theorem dX11_init_32 : decode cX11_init 32 = .ok (.newarray .boolean, 2) := by decide +kernel
theorem dX11_init_34 : decode cX11_init 34 = .ok (.putfield 30, 3) := by decide +kernel
theorem dX11_init_37 : decode cX11_init 37 = .ok (.aload_n 0, 1) := by decide +kernel
theorem dX11_init_38 : decode cX11_init 38 = .ok (.bipush 46, 2) := by decide +kernel
theorem dX11_init_40 : decode cX11_init 40 = .ok (.newarray .int, 2) := by decide +kernel
theorem dX11_init_42 : decode cX11_init 42 = .ok (.putfield 34, 3) := by decide +kernel
theorem dX11_init_45 : decode cX11_init 45 = .ok (.aload_n 0, 1) := by decide +kernel
theorem dX11_init_46 : decode cX11_init 46 = .ok (.sipush 141, 3) := by decide +kernel
theorem dX11_init_49 : decode cX11_init 49 = .ok (.newarray .byte, 2) := by decide +kernel
theorem dX11_init_51 : decode cX11_init 51 = .ok (.dup, 1) := by decide +kernel
theorem dX11_init_52 : decode cX11_init 52 = .ok (.iconst 0, 1) := by decide +kernel
theorem dX11_init_53 : decode cX11_init 53 = .ok (.bipush 99, 2) := by decide +kernel
theorem dX11_init_55 : decode cX11_init 55 = .ok (.bastore, 1) := by decide +kernel
theorem dX11_init_56 : decode cX11_init 56 = .ok (.dup, 1) := by decide +kernel
theorem dX11_init_57 : decode cX11_init 57 = .ok (.iconst 1, 1) := by decide +kernel
theorem dX11_init_58 : decode cX11_init 58 = .ok (.bipush 97, 2) := by decide +kernel
theorem dX11_init_60 : decode cX11_init 60 = .ok (.bastore, 1) := by decide +kernel
theorem dX11_init_61 : decode cX11_init 61 = .ok (.dup, 1) := by decide +kernel
theorem dX11_init_62 : decode cX11_init 62 = .ok (.iconst 2, 1) := by decide +kernel
theorem dX11_init_63 : decode cX11_init 63 = .ok (.bipush 115, 2) := by decide +kernel
theorem dX11_init_65 : decode cX11_init 65 = .ok (.bastore, 1) := by decide +kernel
theorem dX11_init_66 : decode cX11_init 66 = .ok (.dup, 1) := by decide +kernel
theorem dX11_init_67 : decode cX11_init 67 = .ok (.iconst 3, 1) := by decide +kernel
theorem dX11_init_68 : decode cX11_init 68 = .ok (.bipush 107, 2) := by decide +kernel
theorem dX11_init_70 : decode cX11_init 70 = .ok (.bastore, 1) := by decide +kernel
theorem dX11_init_71 : decode cX11_init 71 = .ok (.dup, 1) := by decide +kernel
theorem dX11_init_72 : decode cX11_init 72 = .ok (.iconst 4, 1) := by decide +kernel
theorem dX11_init_73 : decode cX11_init 73 = .ok (.bipush 115, 2) := by decide +kernel
theorem dX11_init_75 : decode cX11_init 75 = .ok (.bastore, 1) := by decide +kernel
theorem dX11_init_76 : decode cX11_init 76 = .ok (.dup, 1) := by decide +kernel
theorem dX11_init_77 : decode cX11_init 77 = .ok (.iconst 5, 1) := by decide +kernel
theorem dX11_init_78 : decode cX11_init 78 = .ok (.bipush 32, 2) := by decide +kernel
theorem dX11_init_80 : decode cX11_init 80 = .ok (.bastore, 1) := by decide +kernel
theorem dX11_init_81 : decode cX11_init 81 = .ok (.dup, 1) := by decide +kernel
theorem dX11_init_82 : decode cX11_init 82 = .ok (.bipush 6, 2) := by decide +kernel
theorem dX11_init_84 : decode cX11_init 84 = .ok (.bipush 101, 2) := by decide +kernel
theorem dX11_init_86 : decode cX11_init 86 = .ok (.bastore, 1) := by decide +kernel
theorem dX11_init_87 : decode cX11_init 87 = .ok (.dup, 1) := by decide +kernel
theorem dX11_init_88 : decode cX11_init 88 = .ok (.bipush 7, 2) := by decide +kernel
theorem dX11_init_90 : decode cX11_init 90 = .ok (.bipush 97, 2) := by decide +kernel
theorem dX11_init_92 : decode cX11_init 92 = .ok (.bastore, 1) := by decide +kernel
theorem dX11_init_93 : decode cX11_init 93 = .ok (.dup, 1) := by decide +kernel
theorem dX11_init_94 : decode cX11_init 94 = .ok (.bipush 8, 2) := by decide +kernel
theorem dX11_init_96 : decode cX11_init 96 = .ok (.bipush 116, 2) := by decide +kernel
theorem dX11_init_98 : decode cX11_init 98 = .ok (.bastore, 1) := by decide +kernel
theorem dX11_init_99 : decode cX11_init 99 = .ok (.dup, 1) := by decide +kernel
theorem dX11_init_100 : decode cX11_init 100 = .ok (.bipush 9, 2) := by decide +kernel
theorem dX11_init_102 : decode cX11_init 102 = .ok (.bipush 115, 2) := by decide +kernel
theorem dX11_init_104 : decode cX11_init 104 = .ok (.bastore, 1) := by decide +kernel
theorem dX11_init_105 : decode cX11_init 105 = .ok (.dup, 1) := by decide +kernel
theorem dX11_init_106 : decode cX11_init 106 = .ok (.bipush 10, 2) := by decide +kernel
theorem dX11_init_108 : decode cX11_init 108 = .ok (.bipush 32, 2) := by decide +kernel
theorem dX11_init_110 : decode cX11_init 110 = .ok (.bastore, 1) := by decide +kernel
theorem dX11_init_111 : decode cX11_init 111 = .ok (.dup, 1) := by decide +kernel
theorem dX11_init_112 : decode cX11_init 112 = .ok (.bipush 11, 2) := by decide +kernel
theorem dX11_init_114 : decode cX11_init 114 = .ok (.bipush 100, 2) := by decide +kernel
theorem dX11_init_116 : decode cX11_init 116 = .ok (.bastore, 1) := by decide +kernel
theorem dX11_init_117 : decode cX11_init 117 = .ok (.dup, 1) := by decide +kernel
theorem dX11_init_118 : decode cX11_init 118 = .ok (.bipush 12, 2) := by decide +kernel
theorem dX11_init_120 : decode cX11_init 120 = .ok (.bipush 101, 2) := by decide +kernel
theorem dX11_init_122 : decode cX11_init 122 = .ok (.bastore, 1) := by decide +kernel
theorem dX11_init_123 : decode cX11_init 123 = .ok (.dup, 1) := by decide +kernel
theorem dX11_init_124 : decode cX11_init 124 = .ok (.bipush 13, 2) := by decide +kernel
theorem dX11_init_126 : decode cX11_init 126 = .ok (.bipush 115, 2) := by decide +kernel
theorem dX11_init_128 : decode cX11_init 128 = .ok (.bastore, 1) := by decide +kernel
theorem dX11_init_129 : decode cX11_init 129 = .ok (.dup, 1) := by decide +kernel
theorem dX11_init_130 : decode cX11_init 130 = .ok (.bipush 14, 2) := by decide +kernel
theorem dX11_init_132 : decode cX11_init 132 = .ok (.bipush 101, 2) := by decide +kernel
theorem dX11_init_134 : decode cX11_init 134 = .ok (.bastore, 1) := by decide +kernel
theorem dX11_init_135 : decode cX11_init 135 = .ok (.dup, 1) := by decide +kernel
theorem dX11_init_136 : decode cX11_init 136 = .ok (.bipush 15, 2) := by decide +kernel
theorem dX11_init_138 : decode cX11_init 138 = .ok (.bipush 114, 2) := by decide +kernel
theorem dX11_init_140 : decode cX11_init 140 = .ok (.bastore, 1) := by decide +kernel
theorem dX11_init_141 : decode cX11_init 141 = .ok (.dup, 1) := by decide +kernel
theorem dX11_init_142 : decode cX11_init 142 = .ok (.bipush 16, 2) := by decide +kernel
theorem dX11_init_144 : decode cX11_init 144 = .ok (.bipush 116, 2) := by decide +kernel
theorem dX11_init_146 : decode cX11_init 146 = .ok (.bastore, 1) := by decide +kernel
theorem dX11_init_147 : decode cX11_init 147 = .ok (.dup, 1) := by decide +kernel
theorem dX11_init_148 : decode cX11_init 148 = .ok (.bipush 17, 2) := by decide +kernel
theorem dX11_init_150 : decode cX11_init 150 = .ok (.bipush 115, 2) := by decide +kernel
theorem dX11_init_152 : decode cX11_init 152 = .ok (.bastore, 1) := by decide +kernel
theorem dX11_init_153 : decode cX11_init 153 = .ok (.dup, 1) := by decide +kernel
theorem dX11_init_154 : decode cX11_init 154 = .ok (.bipush 18, 2) := by decide +kernel
theorem dX11_init_156 : decode cX11_init 156 = .ok (.bipush 32, 2) := by decide +kernel
theorem dX11_init_158 : decode cX11_init 158 = .ok (.bastore, 1) := by decide +kernel
theorem dX11_init_159 : decode cX11_init 159 = .ok (.dup, 1) := by decide +kernel
theorem dX11_init_160 : decode cX11_init 160 = .ok (.bipush 19, 2) := by decide +kernel
theorem dX11_init_162 : decode cX11_init 162 = .ok (.bipush 105, 2) := by decide +kernel
theorem dX11_init_164 : decode cX11_init 164 = .ok (.bastore, 1) := by decide +kernel
theorem dX11_init_165 : decode cX11_init 165 = .ok (.dup, 1) := by decide +kernel
theorem dX11_init_166 : decode cX11_init 166 = .ok (.bipush 20, 2) := by decide +kernel
theorem dX11_init_168 : decode cX11_init 168 = .ok (.bipush 102, 2) := by decide +kernel
theorem dX11_init_170 : decode cX11_init 170 = .ok (.bastore, 1) := by decide +kernel
theorem dX11_init_171 : decode cX11_init 171 = .ok (.dup, 1) := by decide +kernel
theorem dX11_init_172 : decode cX11_init 172 = .ok (.bipush 21, 2) := by decide +kernel
theorem dX11_init_174 : decode cX11_init 174 = .ok (.bipush 32, 2) := by decide +kernel
theorem dX11_init_176 : decode cX11_init 176 = .ok (.bastore, 1) := by decide +kernel
theorem dX11_init_177 : decode cX11_init 177 = .ok (.dup, 1) := by decide +kernel
theorem dX11_init_178 : decode cX11_init 178 = .ok (.bipush 22, 2) := by decide +kernel
theorem dX11_init_180 : decode cX11_init 180 = .ok (.bipush 111, 2) := by decide +kernel
theorem dX11_init_182 : decode cX11_init 182 = .ok (.bastore, 1) := by decide +kernel
theorem dX11_init_183 : decode cX11_init 183 = .ok (.dup, 1) := by decide +kernel
theorem dX11_init_184 : decode cX11_init 184 = .ok (.bipush 23, 2) := by decide +kernel
theorem dX11_init_186 : decode cX11_init 186 = .ok (.bipush 114, 2) := by decide +kernel
theorem dX11_init_188 : decode cX11_init 188 = .ok (.bastore, 1) := by decide +kernel
theorem dX11_init_189 : decode cX11_init 189 = .ok (.dup, 1) := by decide +kernel
theorem dX11_init_190 : decode cX11_init 190 = .ok (.bipush 24, 2) := by decide +kernel
theorem dX11_init_192 : decode cX11_init 192 = .ok (.bipush 32, 2) := by decide +kernel
theorem dX11_init_194 : decode cX11_init 194 = .ok (.bastore, 1) := by decide +kernel
theorem dX11_init_195 : decode cX11_init 195 = .ok (.dup, 1) := by decide +kernel
theorem dX11_init_196 : decode cX11_init 196 = .ok (.bipush 25, 2) := by decide +kernel
theorem dX11_init_198 : decode cX11_init 198 = .ok (.bipush 97, 2) := by decide +kernel
theorem dX11_init_200 : decode cX11_init 200 = .ok (.bastore, 1) := by decide +kernel
theorem dX11_init_201 : decode cX11_init 201 = .ok (.dup, 1) := by decide +kernel
theorem dX11_init_202 : decode cX11_init 202 = .ok (.bipush 26, 2) := by decide +kernel
theorem dX11_init_204 : decode cX11_init 204 = .ok (.bipush 110, 2) := by decide +kernel
theorem dX11_init_206 : decode cX11_init 206 = .ok (.bastore, 1) := by decide +kernel
theorem dX11_init_207 : decode cX11_init 207 = .ok (.dup, 1) := by decide +kernel
theorem dX11_init_208 : decode cX11_init 208 = .ok (.bipush 27, 2) := by decide +kernel
theorem dX11_init_210 : decode cX11_init 210 = .ok (.bipush 100, 2) := by decide +kernel
theorem dX11_init_212 : decode cX11_init 212 = .ok (.bastore, 1) := by decide +kernel
theorem dX11_init_213 : decode cX11_init 213 = .ok (.dup, 1) := by decide +kernel
theorem dX11_init_214 : decode cX11_init 214 = .ok (.bipush 28, 2) := by decide +kernel
theorem dX11_init_216 : decode cX11_init 216 = .ok (.bipush 32, 2) := by decide +kernel
theorem dX11_init_218 : decode cX11_init 218 = .ok (.bastore, 1) := by decide +kernel
theorem dX11_init_219 : decode cX11_init 219 = .ok (.dup, 1) := by decide +kernel
theorem dX11_init_220 : decode cX11_init 220 = .ok (.bipush 29, 2) := by decide +kernel
theorem dX11_init_222 : decode cX11_init 222 = .ok (.bipush 110, 2) := by decide +kernel
theorem dX11_init_224 : decode cX11_init 224 = .ok (.bastore, 1) := by decide +kernel
theorem dX11_init_225 : decode cX11_init 225 = .ok (.dup, 1) := by decide +kernel
theorem dX11_init_226 : decode cX11_init 226 = .ok (.bipush 30, 2) := by decide +kernel
theorem dX11_init_228 : decode cX11_init 228 = .ok (.bipush 111, 2) := by decide +kernel
theorem dX11_init_230 : decode cX11_init 230 = .ok (.bastore, 1) := by decide +kernel
theorem dX11_init_231 : decode cX11_init 231 = .ok (.dup, 1) := by decide +kernel
theorem dX11_init_232 : decode cX11_init 232 = .ok (.bipush 31, 2) := by decide +kernel
theorem dX11_init_234 : decode cX11_init 234 = .ok (.bipush 116, 2) := by decide +kernel
theorem dX11_init_236 : decode cX11_init 236 = .ok (.bastore, 1) := by decide +kernel
theorem dX11_init_237 : decode cX11_init 237 = .ok (.dup, 1) := by decide +kernel
theorem dX11_init_238 : decode cX11_init 238 = .ok (.bipush 32, 2) := by decide +kernel
theorem dX11_init_240 : decode cX11_init 240 = .ok (.bipush 32, 2) := by decide +kernel
theorem dX11_init_242 : decode cX11_init 242 = .ok (.bastore, 1) := by decide +kernel
theorem dX11_init_243 : decode cX11_init 243 = .ok (.dup, 1) := by decide +kernel
theorem dX11_init_244 : decode cX11_init 244 = .ok (.bipush 33, 2) := by decide +kernel
theorem dX11_init_246 : decode cX11_init 246 = .ok (.bipush 104, 2) := by decide +kernel
theorem dX11_init_248 : decode cX11_init 248 = .ok (.bastore, 1) := by decide +kernel
theorem dX11_init_249 : decode cX11_init 249 = .ok (.dup, 1) := by decide +kernel
theorem dX11_init_250 : decode cX11_init 250 = .ok (.bipush 34, 2) := by decide +kernel
theorem dX11_init_252 : decode cX11_init 252 = .ok (.bipush 97, 2) := by decide +kernel
theorem dX11_init_254 : decode cX11_init 254 = .ok (.bastore, 1) := by decide +kernel
theorem dX11_init_255 : decode cX11_init 255 = .ok (.dup, 1) := by decide +kernel
theorem dX11_init_256 : decode cX11_init 256 = .ok (.bipush 35, 2) := by decide +kernel
theorem dX11_init_258 : decode cX11_init 258 = .ok (.bipush 110, 2) := by decide +kernel
theorem dX11_init_260 : decode cX11_init 260 = .ok (.bastore, 1) := by decide +kernel
theorem dX11_init_261 : decode cX11_init 261 = .ok (.dup, 1) := by decide +kernel
theorem dX11_init_262 : decode cX11_init 262 = .ok (.bipush 36, 2) := by decide +kernel
theorem dX11_init_264 : decode cX11_init 264 = .ok (.bipush 100, 2) := by decide +kernel
theorem dX11_init_266 : decode cX11_init 266 = .ok (.bastore, 1) := by decide +kernel
theorem dX11_init_267 : decode cX11_init 267 = .ok (.dup, 1) := by decide +kernel
theorem dX11_init_268 : decode cX11_init 268 = .ok (.bipush 37, 2) := by decide +kernel
theorem dX11_init_270 : decode cX11_init 270 = .ok (.bipush 32, 2) := by decide +kernel
theorem dX11_init_272 : decode cX11_init 272 = .ok (.bastore, 1) := by decide +kernel
theorem dX11_init_273 : decode cX11_init 273 = .ok (.dup, 1) := by decide +kernel
theorem dX11_init_274 : decode cX11_init 274 = .ok (.bipush 38, 2) := by decide +kernel
theorem dX11_init_276 : decode cX11_init 276 = .ok (.bipush 108, 2) := by decide +kernel
theorem dX11_init_278 : decode cX11_init 278 = .ok (.bastore, 1) := by decide +kernel
theorem dX11_init_279 : decode cX11_init 279 = .ok (.dup, 1) := by decide +kernel
theorem dX11_init_280 : decode cX11_init 280 = .ok (.bipush 39, 2) := by decide +kernel
theorem dX11_init_282 : decode cX11_init 282 = .ok (.bipush 97, 2) := by decide +kernel
theorem dX11_init_284 : decode cX11_init 284 = .ok (.bastore, 1) := by decide +kernel
theorem dX11_init_285 : decode cX11_init 285 = .ok (.dup, 1) := by decide +kernel
theorem dX11_init_286 : decode cX11_init 286 = .ok (.bipush 40, 2) := by decide +kernel
theorem dX11_init_288 : decode cX11_init 288 = .ok (.bipush 121, 2) := by decide +kernel
theorem dX11_init_290 : decode cX11_init 290 = .ok (.bastore, 1) := by decide +kernel
theorem dX11_init_291 : decode cX11_init 291 = .ok (.dup, 1) := by decide +kernel
theorem dX11_init_292 : decode cX11_init 292 = .ok (.bipush 41, 2) := by decide +kernel
theorem dX11_init_294 : decode cX11_init 294 = .ok (.bipush 32, 2) := by decide +kernel
theorem dX11_init_296 : decode cX11_init 296 = .ok (.bastore, 1) := by decide +kernel
theorem dX11_init_297 : decode cX11_init 297 = .ok (.dup, 1) := by decide +kernel
theorem dX11_init_298 : decode cX11_init 298 = .ok (.bipush 42, 2) := by decide +kernel
theorem dX11_init_300 : decode cX11_init 300 = .ok (.bipush 115, 2) := by decide +kernel
theorem dX11_init_302 : decode cX11_init 302 = .ok (.bastore, 1) := by decide +kernel
theorem dX11_init_303 : decode cX11_init 303 = .ok (.dup, 1) := by decide +kernel
theorem dX11_init_304 : decode cX11_init 304 = .ok (.bipush 43, 2) := by decide +kernel
theorem dX11_init_306 : decode cX11_init 306 = .ok (.bipush 101, 2) := by decide +kernel
theorem dX11_init_308 : decode cX11_init 308 = .ok (.bastore, 1) := by decide +kernel
theorem dX11_init_309 : decode cX11_init 309 = .ok (.dup, 1) := by decide +kernel
theorem dX11_init_310 : decode cX11_init 310 = .ok (.bipush 44, 2) := by decide +kernel
theorem dX11_init_312 : decode cX11_init 312 = .ok (.bipush 114, 2) := by decide +kernel
theorem dX11_init_314 : decode cX11_init 314 = .ok (.bastore, 1) := by decide +kernel
theorem dX11_init_315 : decode cX11_init 315 = .ok (.dup, 1) := by decide +kernel
theorem dX11_init_316 : decode cX11_init 316 = .ok (.bipush 45, 2) := by decide +kernel
theorem dX11_init_318 : decode cX11_init 318 = .ok (.bipush 118, 2) := by decide +kernel
theorem dX11_init_320 : decode cX11_init 320 = .ok (.bastore, 1) := by decide +kernel
theorem dX11_init_321 : decode cX11_init 321 = .ok (.dup, 1) := by decide +kernel
theorem dX11_init_322 : decode cX11_init 322 = .ok (.bipush 46, 2) := by decide +kernel
theorem dX11_init_324 : decode cX11_init 324 = .ok (.bipush 101, 2) := by decide +kernel
theorem dX11_init_326 : decode cX11_init 326 = .ok (.bastore, 1) := by decide +kernel
theorem dX11_init_327 : decode cX11_init 327 = .ok (.dup, 1) := by decide +kernel
theorem dX11_init_328 : decode cX11_init 328 = .ok (.bipush 47, 2) := by decide +kernel
theorem dX11_init_330 : decode cX11_init 330 = .ok (.bipush 100, 2) := by decide +kernel
theorem dX11_init_332 : decode cX11_init 332 = .ok (.bastore, 1) := by decide +kernel
theorem dX11_init_333 : decode cX11_init 333 = .ok (.dup, 1) := by decide +kernel
theorem dX11_init_334 : decode cX11_init 334 = .ok (.bipush 48, 2) := by decide +kernel
theorem dX11_init_336 : decode cX11_init 336 = .ok (.bipush 32, 2) := by decide +kernel
theorem dX11_init_338 : decode cX11_init 338 = .ok (.bastore, 1) := by decide +kernel
theorem dX11_init_339 : decode cX11_init 339 = .ok (.dup, 1) := by decide +kernel
theorem dX11_init_340 : decode cX11_init 340 = .ok (.bipush 49, 2) := by decide +kernel
theorem dX11_init_342 : decode cX11_init 342 = .ok (.bipush 103, 2) := by decide +kernel
theorem dX11_init_344 : decode cX11_init 344 = .ok (.bastore, 1) := by decide +kernel
theorem dX11_init_345 : decode cX11_init 345 = .ok (.dup, 1) := by decide +kernel
theorem dX11_init_346 : decode cX11_init 346 = .ok (.bipush 50, 2) := by decide +kernel
theorem dX11_init_348 : decode cX11_init 348 = .ok (.bipush 114, 2) := by decide +kernel
theorem dX11_init_350 : decode cX11_init 350 = .ok (.bastore, 1) := by decide +kernel
theorem dX11_init_351 : decode cX11_init 351 = .ok (.dup, 1) := by decide +kernel
theorem dX11_init_352 : decode cX11_init 352 = .ok (.bipush 51, 2) := by decide +kernel
theorem dX11_init_354 : decode cX11_init 354 = .ok (.bipush 111, 2) := by decide +kernel
theorem dX11_init_356 : decode cX11_init 356 = .ok (.bastore, 1) := by decide +kernel
theorem dX11_init_357 : decode cX11_init 357 = .ok (.dup, 1) := by decide +kernel
theorem dX11_init_358 : decode cX11_init 358 = .ok (.bipush 52, 2) := by decide +kernel
theorem dX11_init_360 : decode cX11_init 360 = .ok (.bipush 117, 2) := by decide +kernel
theorem dX11_init_362 : decode cX11_init 362 = .ok (.bastore, 1) := by decide +kernel
theorem dX11_init_363 : decode cX11_init 363 = .ok (.dup, 1) := by decide +kernel
theorem dX11_init_364 : decode cX11_init 364 = .ok (.bipush 53, 2) := by decide +kernel
theorem dX11_init_366 : decode cX11_init 366 = .ok (.bipush 110, 2) := by decide +kernel
theorem dX11_init_368 : decode cX11_init 368 = .ok (.bastore, 1) := by decide +kernel
theorem dX11_init_369 : decode cX11_init 369 = .ok (.dup, 1) := by decide +kernel
theorem dX11_init_370 : decode cX11_init 370 = .ok (.bipush 54, 2) := by decide +kernel
theorem dX11_init_372 : decode cX11_init 372 = .ok (.bipush 100, 2) := by decide +kernel
theorem dX11_init_374 : decode cX11_init 374 = .ok (.bastore, 1) := by decide +kernel
theorem dX11_init_375 : decode cX11_init 375 = .ok (.dup, 1) := by decide +kernel
theorem dX11_init_376 : decode cX11_init 376 = .ok (.bipush 55, 2) := by decide +kernel
theorem dX11_init_378 : decode cX11_init 378 = .ok (.bipush 32, 2) := by decide +kernel
theorem dX11_init_380 : decode cX11_init 380 = .ok (.bastore, 1) := by decide +kernel
theorem dX11_init_381 : decode cX11_init 381 = .ok (.dup, 1) := by decide +kernel
theorem dX11_init_382 : decode cX11_init 382 = .ok (.bipush 56, 2) := by decide +kernel
theorem dX11_init_384 : decode cX11_init 384 = .ok (.bipush 99, 2) := by decide +kernel
theorem dX11_init_386 : decode cX11_init 386 = .ok (.bastore, 1) := by decide +kernel
theorem dX11_init_387 : decode cX11_init 387 = .ok (.dup, 1) := by decide +kernel
theorem dX11_init_388 : decode cX11_init 388 = .ok (.bipush 57, 2) := by decide +kernel
theorem dX11_init_390 : decode cX11_init 390 = .ok (.bipush 114, 2) := by decide +kernel
theorem dX11_init_392 : decode cX11_init 392 = .ok (.bastore, 1) := by decide +kernel
theorem dX11_init_393 : decode cX11_init 393 = .ok (.dup, 1) := by decide +kernel
theorem dX11_init_394 : decode cX11_init 394 = .ok (.bipush 58, 2) := by decide +kernel
theorem dX11_init_396 : decode cX11_init 396 = .ok (.bipush 101, 2) := by decide +kernel
theorem dX11_init_398 : decode cX11_init 398 = .ok (.bastore, 1) := by decide +kernel
theorem dX11_init_399 : decode cX11_init 399 = .ok (.dup, 1) := by decide +kernel
theorem dX11_init_400 : decode cX11_init 400 = .ok (.bipush 59, 2) := by decide +kernel
theorem dX11_init_402 : decode cX11_init 402 = .ok (.bipush 119, 2) := by decide +kernel
theorem dX11_init_404 : decode cX11_init 404 = .ok (.bastore, 1) := by decide +kernel
theorem dX11_init_405 : decode cX11_init 405 = .ok (.dup, 1) := by decide +kernel
theorem dX11_init_406 : decode cX11_init 406 = .ok (.bipush 60, 2) := by decide +kernel
theorem dX11_init_408 : decode cX11_init 408 = .ok (.bipush 32, 2) := by decide +kernel
theorem dX11_init_410 : decode cX11_init 410 = .ok (.bastore, 1) := by decide +kernel
theorem dX11_init_411 : decode cX11_init 411 = .ok (.dup, 1) := by decide +kernel
theorem dX11_init_412 : decode cX11_init 412 = .ok (.bipush 61, 2) := by decide +kernel
theorem dX11_init_414 : decode cX11_init 414 = .ok (.bipush 109, 2) := by decide +kernel
theorem dX11_init_416 : decode cX11_init 416 = .ok (.bastore, 1) := by decide +kernel
theorem dX11_init_417 : decode cX11_init 417 = .ok (.dup, 1) := by decide +kernel
theorem dX11_init_418 : decode cX11_init 418 = .ok (.bipush 62, 2) := by decide +kernel
theorem dX11_init_420 : decode cX11_init 420 = .ok (.bipush 111, 2) := by decide +kernel
theorem dX11_init_422 : decode cX11_init 422 = .ok (.bastore, 1) := by decide +kernel
theorem dX11_init_423 : decode cX11_init 423 = .ok (.dup, 1) := by decide +kernel
theorem dX11_init_424 : decode cX11_init 424 = .ok (.bipush 63, 2) := by decide +kernel
theorem dX11_init_426 : decode cX11_init 426 = .ok (.bipush 111, 2) := by decide +kernel
theorem dX11_init_428 : decode cX11_init 428 = .ok (.bastore, 1) := by decide +kernel
theorem dX11_init_429 : decode cX11_init 429 = .ok (.dup, 1) := by decide +kernel
theorem dX11_init_430 : decode cX11_init 430 = .ok (.bipush 64, 2) := by decide +kernel
theorem dX11_init_432 : decode cX11_init 432 = .ok (.bipush 100, 2) := by decide +kernel
theorem dX11_init_434 : decode cX11_init 434 = .ok (.bastore, 1) := by decide +kernel
theorem dX11_init_435 : decode cX11_init 435 = .ok (.dup, 1) := by decide +kernel
theorem dX11_init_436 : decode cX11_init 436 = .ok (.bipush 65, 2) := by decide +kernel
theorem dX11_init_438 : decode cX11_init 438 = .ok (.bipush 32, 2) := by decide +kernel
theorem dX11_init_440 : decode cX11_init 440 = .ok (.bastore, 1) := by decide +kernel
theorem dX11_init_441 : decode cX11_init 441 = .ok (.dup, 1) := by decide +kernel
theorem dX11_init_442 : decode cX11_init 442 = .ok (.bipush 66, 2) := by decide +kernel
theorem dX11_init_444 : decode cX11_init 444 = .ok (.bipush 100, 2) := by decide +kernel
theorem dX11_init_446 : decode cX11_init 446 = .ok (.bastore, 1) := by decide +kernel
theorem dX11_init_447 : decode cX11_init 447 = .ok (.dup, 1) := by decide +kernel
theorem dX11_init_448 : decode cX11_init 448 = .ok (.bipush 67, 2) := by decide +kernel
theorem dX11_init_450 : decode cX11_init 450 = .ok (.bipush 101, 2) := by decide +kernel
theorem dX11_init_452 : decode cX11_init 452 = .ok (.bastore, 1) := by decide +kernel
theorem dX11_init_453 : decode cX11_init 453 = .ok (.dup, 1) := by decide +kernel
theorem dX11_init_454 : decode cX11_init 454 = .ok (.bipush 68, 2) := by decide +kernel
theorem dX11_init_456 : decode cX11_init 456 = .ok (.bipush 98, 2) := by decide +kernel
theorem dX11_init_458 : decode cX11_init 458 = .ok (.bastore, 1) := by decide +kernel
theorem dX11_init_459 : decode cX11_init 459 = .ok (.dup, 1) := by decide +kernel
theorem dX11_init_460 : decode cX11_init 460 = .ok (.bipush 69, 2) := by decide +kernel
theorem dX11_init_462 : decode cX11_init 462 = .ok (.bipush 116, 2) := by decide +kernel
theorem dX11_init_464 : decode cX11_init 464 = .ok (.bastore, 1) := by decide +kernel
theorem dX11_init_465 : decode cX11_init 465 = .ok (.dup, 1) := by decide +kernel
theorem dX11_init_466 : decode cX11_init 466 = .ok (.bipush 70, 2) := by decide +kernel
theorem dX11_init_468 : decode cX11_init 468 = .ok (.bipush 32, 2) := by decide +kernel
theorem dX11_init_470 : decode cX11_init 470 = .ok (.bastore, 1) := by decide +kernel
theorem dX11_init_471 : decode cX11_init 471 = .ok (.dup, 1) := by decide +kernel
theorem dX11_init_472 : decode cX11_init 472 = .ok (.bipush 71, 2) := by decide +kernel
theorem dX11_init_474 : decode cX11_init 474 = .ok (.bipush 119, 2) := by decide +kernel
theorem dX11_init_476 : decode cX11_init 476 = .ok (.bastore, 1) := by decide +kernel
theorem dX11_init_477 : decode cX11_init 477 = .ok (.dup, 1) := by decide +kernel
theorem dX11_init_478 : decode cX11_init 478 = .ok (.bipush 72, 2) := by decide +kernel
theorem dX11_init_480 : decode cX11_init 480 = .ok (.bipush 104, 2) := by decide +kernel
theorem dX11_init_482 : decode cX11_init 482 = .ok (.bastore, 1) := by decide +kernel
theorem dX11_init_483 : decode cX11_init 483 = .ok (.dup, 1) := by decide +kernel
theorem dX11_init_484 : decode cX11_init 484 = .ok (.bipush 73, 2) := by decide +kernel
theorem dX11_init_486 : decode cX11_init 486 = .ok (.bipush 97, 2) := by decide +kernel
theorem dX11_init_488 : decode cX11_init 488 = .ok (.bastore, 1) := by decide +kernel
theorem dX11_init_489 : decode cX11_init 489 = .ok (.dup, 1) := by decide +kernel
theorem dX11_init_490 : decode cX11_init 490 = .ok (.bipush 74, 2) := by decide +kernel
theorem dX11_init_492 : decode cX11_init 492 = .ok (.bipush 108, 2) := by decide +kernel
theorem dX11_init_494 : decode cX11_init 494 = .ok (.bastore, 1) := by decide +kernel
theorem dX11_init_495 : decode cX11_init 495 = .ok (.dup, 1) := by decide +kernel
theorem dX11_init_496 : decode cX11_init 496 = .ok (.bipush 75, 2) := by decide +kernel
theorem dX11_init_498 : decode cX11_init 498 = .ok (.bipush 101, 2) := by decide +kernel
theorem dX11_init_500 : decode cX11_init 500 = .ok (.bastore, 1) := by decide +kernel
theorem dX11_init_501 : decode cX11_init 501 = .ok (.dup, 1) := by decide +kernel
theorem dX11_init_502 : decode cX11_init 502 = .ok (.bipush 76, 2) := by decide +kernel
theorem dX11_init_504 : decode cX11_init 504 = .ok (.bipush 115, 2) := by decide +kernel
theorem dX11_init_506 : decode cX11_init 506 = .ok (.bastore, 1) := by decide +kernel
theorem dX11_init_507 : decode cX11_init 507 = .ok (.dup, 1) := by decide +kernel
theorem dX11_init_508 : decode cX11_init 508 = .ok (.bipush 77, 2) := by decide +kernel
theorem dX11_init_510 : decode cX11_init 510 = .ok (.bipush 32, 2) := by decide +kernel
theorem dX11_init_512 : decode cX11_init 512 = .ok (.bastore, 1) := by decide +kernel
theorem dX11_init_513 : decode cX11_init 513 = .ok (.dup, 1) := by decide +kernel
theorem dX11_init_514 : decode cX11_init 514 = .ok (.bipush 78, 2) := by decide +kernel
theorem dX11_init_516 : decode cX11_init 516 = .ok (.bipush 111, 2) := by decide +kernel
theorem dX11_init_518 : decode cX11_init 518 = .ok (.bastore, 1) := by decide +kernel
theorem dX11_init_519 : decode cX11_init 519 = .ok (.dup, 1) := by decide +kernel
theorem dX11_init_520 : decode cX11_init 520 = .ok (.bipush 79, 2) := by decide +kernel
theorem dX11_init_522 : decode cX11_init 522 = .ok (.bipush 105, 2) := by decide +kernel
theorem dX11_init_524 : decode cX11_init 524 = .ok (.bastore, 1) := by decide +kernel
theorem dX11_init_525 : decode cX11_init 525 = .ok (.dup, 1) := by decide +kernel
theorem dX11_init_526 : decode cX11_init 526 = .ok (.bipush 80, 2) := by decide +kernel
theorem dX11_init_528 : decode cX11_init 528 = .ok (.bipush 108, 2) := by decide +kernel
theorem dX11_init_530 : decode cX11_init 530 = .ok (.bastore, 1) := by decide +kernel
theorem dX11_init_531 : decode cX11_init 531 = .ok (.dup, 1) := by decide +kernel
theorem dX11_init_532 : decode cX11_init 532 = .ok (.bipush 81, 2) := by decide +kernel
theorem dX11_init_534 : decode cX11_init 534 = .ok (.bipush 32, 2) := by decide +kernel
theorem dX11_init_536 : decode cX11_init 536 = .ok (.bastore, 1) := by decide +kernel
theorem dX11_init_537 : decode cX11_init 537 = .ok (.dup, 1) := by decide +kernel
theorem dX11_init_538 : decode cX11_init 538 = .ok (.bipush 82, 2) := by decide +kernel
theorem dX11_init_540 : decode cX11_init 540 = .ok (.bipush 109, 2) := by decide +kernel
theorem dX11_init_542 : decode cX11_init 542 = .ok (.bastore, 1) := by decide +kernel
theorem dX11_init_543 : decode cX11_init 543 = .ok (.dup, 1) := by decide +kernel
theorem dX11_init_544 : decode cX11_init 544 = .ok (.bipush 83, 2) := by decide +kernel
theorem dX11_init_546 : decode cX11_init 546 = .ok (.bipush 111, 2) := by decide +kernel
theorem dX11_init_548 : decode cX11_init 548 = .ok (.bastore, 1) := by decide +kernel
theorem dX11_init_549 : decode cX11_init 549 = .ok (.dup, 1) := by decide +kernel
theorem dX11_init_550 : decode cX11_init 550 = .ok (.bipush 84, 2) := by decide +kernel
theorem dX11_init_552 : decode cX11_init 552 = .ok (.bipush 110, 2) := by decide +kernel
theorem dX11_init_554 : decode cX11_init 554 = .ok (.bastore, 1) := by decide +kernel
theorem dX11_init_555 : decode cX11_init 555 = .ok (.dup, 1) := by decide +kernel
theorem dX11_init_556 : decode cX11_init 556 = .ok (.bipush 85, 2) := by decide +kernel
theorem dX11_init_558 : decode cX11_init 558 = .ok (.bipush 116, 2) := by decide +kernel
theorem dX11_init_560 : decode cX11_init 560 = .ok (.bastore, 1) := by decide +kernel
theorem dX11_init_561 : decode cX11_init 561 = .ok (.dup, 1) := by decide +kernel
theorem dX11_init_562 : decode cX11_init 562 = .ok (.bipush 86, 2) := by decide +kernel
theorem dX11_init_564 : decode cX11_init 564 = .ok (.bipush 104, 2) := by decide +kernel
theorem dX11_init_566 : decode cX11_init 566 = .ok (.bastore, 1) := by decide +kernel
theorem dX11_init_567 : decode cX11_init 567 = .ok (.dup, 1) := by decide +kernel
theorem dX11_init_568 : decode cX11_init 568 = .ok (.bipush 87, 2) := by decide +kernel
theorem dX11_init_570 : decode cX11_init 570 = .ok (.bipush 32, 2) := by decide +kernel
theorem dX11_init_572 : decode cX11_init 572 = .ok (.bastore, 1) := by decide +kernel
theorem dX11_init_573 : decode cX11_init 573 = .ok (.dup, 1) := by decide +kernel
theorem dX11_init_574 : decode cX11_init 574 = .ok (.bipush 88, 2) := by decide +kernel
theorem dX11_init_576 : decode cX11_init 576 = .ok (.bipush 100, 2) := by decide +kernel
theorem dX11_init_578 : decode cX11_init 578 = .ok (.bastore, 1) := by decide +kernel
theorem dX11_init_579 : decode cX11_init 579 = .ok (.dup, 1) := by decide +kernel
theorem dX11_init_580 : decode cX11_init 580 = .ok (.bipush 89, 2) := by decide +kernel
theorem dX11_init_582 : decode cX11_init 582 = .ok (.bipush 111, 2) := by decide +kernel
theorem dX11_init_584 : decode cX11_init 584 = .ok (.bastore, 1) := by decide +kernel
theorem dX11_init_585 : decode cX11_init 585 = .ok (.dup, 1) := by decide +kernel
theorem dX11_init_586 : decode cX11_init 586 = .ok (.bipush 90, 2) := by decide +kernel
theorem dX11_init_588 : decode cX11_init 588 = .ok (.bipush 110, 2) := by decide +kernel
theorem dX11_init_590 : decode cX11_init 590 = .ok (.bastore, 1) := by decide +kernel
theorem dX11_init_591 : decode cX11_init 591 = .ok (.dup, 1) := by decide +kernel
theorem dX11_init_592 : decode cX11_init 592 = .ok (.bipush 91, 2) := by decide +kernel
theorem dX11_init_594 : decode cX11_init 594 = .ok (.bipush 101, 2) := by decide +kernel
theorem dX11_init_596 : decode cX11_init 596 = .ok (.bastore, 1) := by decide +kernel
theorem dX11_init_597 : decode cX11_init 597 = .ok (.dup, 1) := by decide +kernel
theorem dX11_init_598 : decode cX11_init 598 = .ok (.bipush 92, 2) := by decide +kernel
theorem dX11_init_600 : decode cX11_init 600 = .ok (.bipush 32, 2) := by decide +kernel
theorem dX11_init_602 : decode cX11_init 602 = .ok (.bastore, 1) := by decide +kernel
theorem dX11_init_603 : decode cX11_init 603 = .ok (.dup, 1) := by decide +kernel
theorem dX11_init_604 : decode cX11_init 604 = .ok (.bipush 93, 2) := by decide +kernel
theorem dX11_init_606 : decode cX11_init 606 = .ok (.bipush 103, 2) := by decide +kernel
theorem dX11_init_608 : decode cX11_init 608 = .ok (.bastore, 1) := by decide +kernel
theorem dX11_init_609 : decode cX11_init 609 = .ok (.dup, 1) := by decide +kernel
theorem dX11_init_610 : decode cX11_init 610 = .ok (.bipush 94, 2) := by decide +kernel
theorem dX11_init_612 : decode cX11_init 612 = .ok (.bipush 111, 2) := by decide +kernel
theorem dX11_init_614 : decode cX11_init 614 = .ok (.bastore, 1) := by decide +kernel
theorem dX11_init_615 : decode cX11_init 615 = .ok (.dup, 1) := by decide +kernel
theorem dX11_init_616 : decode cX11_init 616 = .ok (.bipush 95, 2) := by decide +kernel
theorem dX11_init_618 : decode cX11_init 618 = .ok (.bipush 110, 2) := by decide +kernel
theorem dX11_init_620 : decode cX11_init 620 = .ok (.bastore, 1) := by decide +kernel
theorem dX11_init_621 : decode cX11_init 621 = .ok (.dup, 1) := by decide +kernel
theorem dX11_init_622 : decode cX11_init 622 = .ok (.bipush 96, 2) := by decide +kernel
theorem dX11_init_624 : decode cX11_init 624 = .ok (.bipush 101, 2) := by decide +kernel
theorem dX11_init_626 : decode cX11_init 626 = .ok (.bastore, 1) := by decide +kernel
theorem dX11_init_627 : decode cX11_init 627 = .ok (.dup, 1) := by decide +kernel
theorem dX11_init_628 : decode cX11_init 628 = .ok (.bipush 97, 2) := by decide +kernel
theorem dX11_init_630 : decode cX11_init 630 = .ok (.bipush 32, 2) := by decide +kernel
theorem dX11_init_632 : decode cX11_init 632 = .ok (.bastore, 1) := by decide +kernel
theorem dX11_init_633 : decode cX11_init 633 = .ok (.dup, 1) := by decide +kernel
theorem dX11_init_634 : decode cX11_init 634 = .ok (.bipush 98, 2) := by decide +kernel
theorem dX11_init_636 : decode cX11_init 636 = .ok (.bipush 112, 2) := by decide +kernel
theorem dX11_init_638 : decode cX11_init 638 = .ok (.bastore, 1) := by decide +kernel
theorem dX11_init_639 : decode cX11_init 639 = .ok (.dup, 1) := by decide +kernel
theorem dX11_init_640 : decode cX11_init 640 = .ok (.bipush 99, 2) := by decide +kernel
theorem dX11_init_642 : decode cX11_init 642 = .ok (.bipush 117, 2) := by decide +kernel
theorem dX11_init_644 : decode cX11_init 644 = .ok (.bastore, 1) := by decide +kernel
theorem dX11_init_645 : decode cX11_init 645 = .ok (.dup, 1) := by decide +kernel
theorem dX11_init_646 : decode cX11_init 646 = .ok (.bipush 100, 2) := by decide +kernel
theorem dX11_init_648 : decode cX11_init 648 = .ok (.bipush 114, 2) := by decide +kernel
theorem dX11_init_650 : decode cX11_init 650 = .ok (.bastore, 1) := by decide +kernel
theorem dX11_init_651 : decode cX11_init 651 = .ok (.dup, 1) := by decide +kernel
theorem dX11_init_652 : decode cX11_init 652 = .ok (.bipush 101, 2) := by decide +kernel
theorem dX11_init_654 : decode cX11_init 654 = .ok (.bipush 115, 2) := by decide +kernel
theorem dX11_init_656 : decode cX11_init 656 = .ok (.bastore, 1) := by decide +kernel
theorem dX11_init_657 : decode cX11_init 657 = .ok (.dup, 1) := by decide +kernel
theorem dX11_init_658 : decode cX11_init 658 = .ok (.bipush 102, 2) := by decide +kernel
theorem dX11_init_660 : decode cX11_init 660 = .ok (.bipush 101, 2) := by decide +kernel
theorem dX11_init_662 : decode cX11_init 662 = .ok (.bastore, 1) := by decide +kernel
theorem dX11_init_663 : decode cX11_init 663 = .ok (.dup, 1) := by decide +kernel
theorem dX11_init_664 : decode cX11_init 664 = .ok (.bipush 103, 2) := by decide +kernel
theorem dX11_init_666 : decode cX11_init 666 = .ok (.bipush 32, 2) := by decide +kernel
theorem dX11_init_668 : decode cX11_init 668 = .ok (.bastore, 1) := by decide +kernel
theorem dX11_init_669 : decode cX11_init 669 = .ok (.dup, 1) := by decide +kernel
theorem dX11_init_670 : decode cX11_init 670 = .ok (.bipush 104, 2) := by decide +kernel
theorem dX11_init_672 : decode cX11_init 672 = .ok (.bipush 104, 2) := by decide +kernel
theorem dX11_init_674 : decode cX11_init 674 = .ok (.bastore, 1) := by decide +kernel
theorem dX11_init_675 : decode cX11_init 675 = .ok (.dup, 1) := by decide +kernel
theorem dX11_init_676 : decode cX11_init 676 = .ok (.bipush 105, 2) := by decide +kernel
theorem dX11_init_678 : decode cX11_init 678 = .ok (.bipush 117, 2) := by decide +kernel
theorem dX11_init_680 : decode cX11_init 680 = .ok (.bastore, 1) := by decide +kernel
theorem dX11_init_681 : decode cX11_init 681 = .ok (.dup, 1) := by decide +kernel
theorem dX11_init_682 : decode cX11_init 682 = .ok (.bipush 106, 2) := by decide +kernel
theorem dX11_init_684 : decode cX11_init 684 = .ok (.bipush 110, 2) := by decide +kernel
theorem dX11_init_686 : decode cX11_init 686 = .ok (.bastore, 1) := by decide +kernel
theorem dX11_init_687 : decode cX11_init 687 = .ok (.dup, 1) := by decide +kernel
theorem dX11_init_688 : decode cX11_init 688 = .ok (.bipush 107, 2) := by decide +kernel
theorem dX11_init_690 : decode cX11_init 690 = .ok (.bipush 116, 2) := by decide +kernel
theorem dX11_init_692 : decode cX11_init 692 = .ok (.bastore, 1) := by decide +kernel
theorem dX11_init_693 : decode cX11_init 693 = .ok (.dup, 1) := by decide +kernel
theorem dX11_init_694 : decode cX11_init 694 = .ok (.bipush 108, 2) := by decide +kernel
theorem dX11_init_696 : decode cX11_init 696 = .ok (.bipush 32, 2) := by decide +kernel
theorem dX11_init_698 : decode cX11_init 698 = .ok (.bastore, 1) := by decide +kernel
theorem dX11_init_699 : decode cX11_init 699 = .ok (.dup, 1) := by decide +kernel
theorem dX11_init_700 : decode cX11_init 700 = .ok (.bipush 109, 2) := by decide +kernel
theorem dX11_init_702 : decode cX11_init 702 = .ok (.bipush 102, 2) := by decide +kernel
theorem dX11_init_704 : decode cX11_init 704 = .ok (.bastore, 1) := by decide +kernel
theorem dX11_init_705 : decode cX11_init 705 = .ok (.dup, 1) := by decide +kernel
theorem dX11_init_706 : decode cX11_init 706 = .ok (.bipush 110, 2) := by decide +kernel
theorem dX11_init_708 : decode cX11_init 708 = .ok (.bipush 111, 2) := by decide +kernel
theorem dX11_init_710 : decode cX11_init 710 = .ok (.bastore, 1) := by decide +kernel
theorem dX11_init_711 : decode cX11_init 711 = .ok (.dup, 1) := by decide +kernel
theorem dX11_init_712 : decode cX11_init 712 = .ok (.bipush 111, 2) := by decide +kernel
theorem dX11_init_714 : decode cX11_init 714 = .ok (.bipush 114, 2) := by decide +kernel
theorem dX11_init_716 : decode cX11_init 716 = .ok (.bastore, 1) := by decide +kernel
theorem dX11_init_717 : decode cX11_init 717 = .ok (.dup, 1) := by decide +kernel
theorem dX11_init_718 : decode cX11_init 718 = .ok (.bipush 112, 2) := by decide +kernel
theorem dX11_init_720 : decode cX11_init 720 = .ok (.bipush 32, 2) := by decide +kernel
theorem dX11_init_722 : decode cX11_init 722 = .ok (.bastore, 1) := by decide +kernel
theorem dX11_init_723 : decode cX11_init 723 = .ok (.dup, 1) := by decide +kernel
theorem dX11_init_724 : decode cX11_init 724 = .ok (.bipush 113, 2) := by decide +kernel
theorem dX11_init_726 : decode cX11_init 726 = .ok (.bipush 115, 2) := by decide +kernel
theorem dX11_init_728 : decode cX11_init 728 = .ok (.bastore, 1) := by decide +kernel
theorem dX11_init_729 : decode cX11_init 729 = .ok (.dup, 1) := by decide +kernel
theorem dX11_init_730 : decode cX11_init 730 = .ok (.bipush 114, 2) := by decide +kernel
theorem dX11_init_732 : decode cX11_init 732 = .ok (.bipush 101, 2) := by decide +kernel
theorem dX11_init_734 : decode cX11_init 734 = .ok (.bastore, 1) := by decide +kernel
theorem dX11_init_735 : decode cX11_init 735 = .ok (.dup, 1) := by decide +kernel
theorem dX11_init_736 : decode cX11_init 736 = .ok (.bipush 115, 2) := by decide +kernel
theorem dX11_init_738 : decode cX11_init 738 = .ok (.bipush 108, 2) := by decide +kernel
theorem dX11_init_740 : decode cX11_init 740 = .ok (.bastore, 1) := by decide +kernel
theorem dX11_init_741 : decode cX11_init 741 = .ok (.dup, 1) := by decide +kernel
theorem dX11_init_742 : decode cX11_init 742 = .ok (.bipush 116, 2) := by decide +kernel
theorem dX11_init_744 : decode cX11_init 744 = .ok (.bipush 108, 2) := by decide +kernel
theorem dX11_init_746 : decode cX11_init 746 = .ok (.bastore, 1) := by decide +kernel
theorem dX11_init_747 : decode cX11_init 747 = .ok (.dup, 1) := by decide +kernel
theorem dX11_init_748 : decode cX11_init 748 = .ok (.bipush 117, 2) := by decide +kernel
theorem dX11_init_750 : decode cX11_init 750 = .ok (.bipush 32, 2) := by decide +kernel
theorem dX11_init_752 : decode cX11_init 752 = .ok (.bastore, 1) := by decide +kernel
theorem dX11_init_753 : decode cX11_init 753 = .ok (.dup, 1) := by decide +kernel
theorem dX11_init_754 : decode cX11_init 754 = .ok (.bipush 118, 2) := by decide +kernel
theorem dX11_init_756 : decode cX11_init 756 = .ok (.bipush 97, 2) := by decide +kernel
theorem dX11_init_758 : decode cX11_init 758 = .ok (.bastore, 1) := by decide +kernel
theorem dX11_init_759 : decode cX11_init 759 = .ok (.dup, 1) := by decide +kernel
theorem dX11_init_760 : decode cX11_init 760 = .ok (.bipush 119, 2) := by decide +kernel
theorem dX11_init_762 : decode cX11_init 762 = .ok (.bipush 100, 2) := by decide +kernel
theorem dX11_init_764 : decode cX11_init 764 = .ok (.bastore, 1) := by decide +kernel
theorem dX11_init_765 : decode cX11_init 765 = .ok (.dup, 1) := by decide +kernel
theorem dX11_init_766 : decode cX11_init 766 = .ok (.bipush 120, 2) := by decide +kernel
theorem dX11_init_768 : decode cX11_init 768 = .ok (.bipush 118, 2) := by decide +kernel
theorem dX11_init_770 : decode cX11_init 770 = .ok (.bastore, 1) := by decide +kernel
theorem dX11_init_771 : decode cX11_init 771 = .ok (.dup, 1) := by decide +kernel
theorem dX11_init_772 : decode cX11_init 772 = .ok (.bipush 121, 2) := by decide +kernel
theorem dX11_init_774 : decode cX11_init 774 = .ok (.bipush 97, 2) := by decide +kernel
theorem dX11_init_776 : decode cX11_init 776 = .ok (.bastore, 1) := by decide +kernel
theorem dX11_init_777 : decode cX11_init 777 = .ok (.dup, 1) := by decide +kernel
theorem dX11_init_778 : decode cX11_init 778 = .ok (.bipush 122, 2) := by decide +kernel
theorem dX11_init_780 : decode cX11_init 780 = .ok (.bipush 110, 2) := by decide +kernel
theorem dX11_init_782 : decode cX11_init 782 = .ok (.bastore, 1) := by decide +kernel
theorem dX11_init_783 : decode cX11_init 783 = .ok (.dup, 1) := by decide +kernel
theorem dX11_init_784 : decode cX11_init 784 = .ok (.bipush 123, 2) := by decide +kernel
theorem dX11_init_786 : decode cX11_init 786 = .ok (.bipush 99, 2) := by decide +kernel
theorem dX11_init_788 : decode cX11_init 788 = .ok (.bastore, 1) := by decide +kernel
theorem dX11_init_789 : decode cX11_init 789 = .ok (.dup, 1) := by decide +kernel
theorem dX11_init_790 : decode cX11_init 790 = .ok (.bipush 124, 2) := by decide +kernel
theorem dX11_init_792 : decode cX11_init 792 = .ok (.bipush 101, 2) := by decide +kernel
theorem dX11_init_794 : decode cX11_init 794 = .ok (.bastore, 1) := by decide +kernel
theorem dX11_init_795 : decode cX11_init 795 = .ok (.dup, 1) := by decide +kernel
theorem dX11_init_796 : decode cX11_init 796 = .ok (.bipush 125, 2) := by decide +kernel
theorem dX11_init_798 : decode cX11_init 798 = .ok (.bipush 32, 2) := by decide +kernel
theorem dX11_init_800 : decode cX11_init 800 = .ok (.bastore, 1) := by decide +kernel
theorem dX11_init_801 : decode cX11_init 801 = .ok (.dup, 1) := by decide +kernel
theorem dX11_init_802 : decode cX11_init 802 = .ok (.bipush 126, 2) := by decide +kernel
theorem dX11_init_804 : decode cX11_init 804 = .ok (.bipush 98, 2) := by decide +kernel
theorem dX11_init_806 : decode cX11_init 806 = .ok (.bastore, 1) := by decide +kernel
theorem dX11_init_807 : decode cX11_init 807 = .ok (.dup, 1) := by decide +kernel
theorem dX11_init_808 : decode cX11_init 808 = .ok (.bipush 127, 2) := by decide +kernel
theorem dX11_init_810 : decode cX11_init 810 = .ok (.bipush 121, 2) := by decide +kernel
theorem dX11_init_812 : decode cX11_init 812 = .ok (.bastore, 1) := by decide +kernel
theorem dX11_init_813 : decode cX11_init 813 = .ok (.dup, 1) := by decide +kernel
theorem dX11_init_814 : decode cX11_init 814 = .ok (.sipush 128, 3) := by decide +kernel
theorem dX11_init_817 : decode cX11_init 817 = .ok (.bipush 32, 2) := by decide +kernel
theorem dX11_init_819 : decode cX11_init 819 = .ok (.bastore, 1) := by decide +kernel
theorem dX11_init_820 : decode cX11_init 820 = .ok (.dup, 1) := by decide +kernel
theorem dX11_init_821 : decode cX11_init 821 = .ok (.sipush 129, 3) := by decide +kernel
theorem dX11_init_824 : decode cX11_init 824 = .ok (.bipush 108, 2) := by decide +kernel
theorem dX11_init_826 : decode cX11_init 826 = .ok (.bastore, 1) := by decide +kernel
theorem dX11_init_827 : decode cX11_init 827 = .ok (.dup, 1) := by decide +kernel
theorem dX11_init_828 : decode cX11_init 828 = .ok (.sipush 130, 3) := by decide +kernel
theorem dX11_init_831 : decode cX11_init 831 = .ok (.bipush 101, 2) := by decide +kernel
theorem dX11_init_833 : decode cX11_init 833 = .ok (.bastore, 1) := by decide +kernel
theorem dX11_init_834 : decode cX11_init 834 = .ok (.dup, 1) := by decide +kernel
theorem dX11_init_835 : decode cX11_init 835 = .ok (.sipush 131, 3) := by decide +kernel
theorem dX11_init_838 : decode cX11_init 838 = .ok (.bipush 97, 2) := by decide +kernel
theorem dX11_init_840 : decode cX11_init 840 = .ok (.bastore, 1) := by decide +kernel
theorem dX11_init_841 : decode cX11_init 841 = .ok (.dup, 1) := by decide +kernel
theorem dX11_init_842 : decode cX11_init 842 = .ok (.sipush 132, 3) := by decide +kernel
theorem dX11_init_845 : decode cX11_init 845 = .ok (.bipush 118, 2) := by decide +kernel
theorem dX11_init_847 : decode cX11_init 847 = .ok (.bastore, 1) := by decide +kernel
theorem dX11_init_848 : decode cX11_init 848 = .ok (.dup, 1) := by decide +kernel
theorem dX11_init_849 : decode cX11_init 849 = .ok (.sipush 133, 3) := by decide +kernel
theorem dX11_init_852 : decode cX11_init 852 = .ok (.bipush 101, 2) := by decide +kernel
theorem dX11_init_854 : decode cX11_init 854 = .ok (.bastore, 1) := by decide +kernel
theorem dX11_init_855 : decode cX11_init 855 = .ok (.dup, 1) := by decide +kernel
theorem dX11_init_856 : decode cX11_init 856 = .ok (.sipush 134, 3) := by decide +kernel
theorem dX11_init_859 : decode cX11_init 859 = .ok (.bipush 32, 2) := by decide +kernel
theorem dX11_init_861 : decode cX11_init 861 = .ok (.bastore, 1) := by decide +kernel
theorem dX11_init_862 : decode cX11_init 862 = .ok (.dup, 1) := by decide +kernel
theorem dX11_init_863 : decode cX11_init 863 = .ok (.sipush 135, 3) := by decide +kernel
theorem dX11_init_866 : decode cX11_init 866 = .ok (.bipush 116, 2) := by decide +kernel
theorem dX11_init_868 : decode cX11_init 868 = .ok (.bastore, 1) := by decide +kernel
theorem dX11_init_869 : decode cX11_init 869 = .ok (.dup, 1) := by decide +kernel
theorem dX11_init_870 : decode cX11_init 870 = .ok (.sipush 136, 3) := by decide +kernel
theorem dX11_init_873 : decode cX11_init 873 = .ok (.bipush 105, 2) := by decide +kernel
theorem dX11_init_875 : decode cX11_init 875 = .ok (.bastore, 1) := by decide +kernel
theorem dX11_init_876 : decode cX11_init 876 = .ok (.dup, 1) := by decide +kernel
theorem dX11_init_877 : decode cX11_init 877 = .ok (.sipush 137, 3) := by decide +kernel
theorem dX11_init_880 : decode cX11_init 880 = .ok (.bipush 109, 2) := by decide +kernel
theorem dX11_init_882 : decode cX11_init 882 = .ok (.bastore, 1) := by decide +kernel
theorem dX11_init_883 : decode cX11_init 883 = .ok (.dup, 1) := by decide +kernel
theorem dX11_init_884 : decode cX11_init 884 = .ok (.sipush 138, 3) := by decide +kernel
theorem dX11_init_887 : decode cX11_init 887 = .ok (.bipush 101, 2) := by decide +kernel
theorem dX11_init_889 : decode cX11_init 889 = .ok (.bastore, 1) := by decide +kernel
theorem dX11_init_890 : decode cX11_init 890 = .ok (.dup, 1) := by decide +kernel
theorem dX11_init_891 : decode cX11_init 891 = .ok (.sipush 139, 3) := by decide +kernel
theorem dX11_init_894 : decode cX11_init 894 = .ok (.bipush 115, 2) := by decide +kernel
theorem dX11_init_896 : decode cX11_init 896 = .ok (.bastore, 1) := by decide +kernel
theorem dX11_init_897 : decode cX11_init 897 = .ok (.dup, 1) := by decide +kernel
theorem dX11_init_898 : decode cX11_init 898 = .ok (.sipush 140, 3) := by decide +kernel
theorem dX11_init_901 : decode cX11_init 901 = .ok (.bipush 32, 2) := by decide +kernel
theorem dX11_init_903 : decode cX11_init 903 = .ok (.bastore, 1) := by decide +kernel
theorem dX11_init_904 : decode cX11_init 904 = .ok (.putfield 37, 3) := by decide +kernel
theorem dX11_init_907 : decode cX11_init 907 = .ok (.aload_n 0, 1) := by decide +kernel
theorem dX11_init_908 : decode cX11_init 908 = .ok (.sipush 400, 3) := by decide +kernel
theorem dX11_init_911 : decode cX11_init 911 = .ok (.newarray .byte, 2) := by decide +kernel
theorem dX11_init_913 : decode cX11_init 913 = .ok (.putfield 41, 3) := by decide +kernel
theorem dX11_init_916 : decode cX11_init 916 = .ok (.aload_n 0, 1) := by decide +kernel
theorem dX11_init_917 : decode cX11_init 917 = .ok (.iconst 5, 1) := by decide +kernel
theorem dX11_init_918 : decode cX11_init 918 = .ok (.newarray .int, 2) := by decide +kernel
theorem dX11_init_920 : decode cX11_init 920 = .ok (.putfield 44, 3) := by decide +kernel
theorem dX11_init_923 : decode cX11_init 923 = .ok (.aload_n 0, 1) := by decide +kernel
theorem dX11_init_924 : decode cX11_init 924 = .ok (.iconst (-1), 1) := by decide +kernel
theorem dX11_init_925 : decode cX11_init 925 = .ok (.putfield 47, 3) := by decide +kernel
theorem dX11_init_928 : decode cX11_init 928 = .ok (.aload_n 0, 1) := by decide +kernel
theorem dX11_init_929 : decode cX11_init 929 = .ok (.sipush 401, 3) := by decide +kernel
theorem dX11_init_932 : decode cX11_init 932 = .ok (.newarray .int, 2) := by decide +kernel
theorem dX11_init_934 : decode cX11_init 934 = .ok (.putfield 50, 3) := by decide +kernel
theorem dX11_init_937 : decode cX11_init 937 = .ok (.aload_n 0, 1) := by decide +kernel
theorem dX11_init_938 : decode cX11_init 938 = .ok (.sipush 401, 3) := by decide +kernel
theorem dX11_init_941 : decode cX11_init 941 = .ok (.newarray .int, 2) := by decide +kernel
theorem dX11_init_943 : decode cX11_init 943 = .ok (.putfield 53, 3) := by decide +kernel
theorem dX11_init_946 : decode cX11_init 946 = .ok (.aload_n 0, 1) := by decide +kernel
theorem dX11_init_947 : decode cX11_init 947 = .ok (.sipush 401, 3) := by decide +kernel
theorem dX11_init_950 : decode cX11_init 950 = .ok (.newarray .int, 2) := by decide +kernel
theorem dX11_init_952 : decode cX11_init 952 = .ok (.putfield 56, 3) := by decide +kernel
theorem dX11_init_955 : decode cX11_init 955 = .ok (.aload_n 0, 1) := by decide +kernel
theorem dX11_init_956 : decode cX11_init 956 = .ok (.bipush 10, 2) := by decide +kernel
theorem dX11_init_958 : decode cX11_init 958 = .ok (.newarray .int, 2) := by decide +kernel
theorem dX11_init_960 : decode cX11_init 960 = .ok (.putfield 59, 3) := by decide +kernel
theorem dX11_init_963 : decode cX11_init 963 = .ok (.aload_n 0, 1) := by decide +kernel
theorem dX11_init_964 : decode cX11_init 964 = .ok (.bipush 8, 2) := by decide +kernel
theorem dX11_init_966 : decode cX11_init 966 = .ok (.newarray .int, 2) := by decide +kernel
theorem dX11_init_968 : decode cX11_init 968 = .ok (.putfield 62, 3) := by decide +kernel
theorem dX11_init_971 : decode cX11_init 971 = .ok (.aload_n 0, 1) := by decide +kernel
theorem dX11_init_972 : decode cX11_init 972 = .ok (.sipush 384, 3) := by decide +kernel
theorem dX11_init_975 : decode cX11_init 975 = .ok (.newarray .int, 2) := by decide +kernel
theorem dX11_init_977 : decode cX11_init 977 = .ok (.putfield 65, 3) := by decide +kernel
theorem dX11_init_980 : decode cX11_init 980 = .ok (.aload_n 0, 1) := by decide +kernel
theorem dX11_init_981 : decode cX11_init 981 = .ok (.sipush 384, 3) := by decide +kernel
theorem dX11_init_984 : decode cX11_init 984 = .ok (.newarray .int, 2) := by decide +kernel
theorem dX11_init_986 : decode cX11_init 986 = .ok (.putfield 68, 3) := by decide +kernel
theorem dX11_init_989 : decode cX11_init 989 = .ok (.aload_n 0, 1) := by decide +kernel
theorem dX11_init_990 : decode cX11_init 990 = .ok (.sipush 2000, 3) := by decide +kernel
theorem dX11_init_993 : decode cX11_init 993 = .ok (.newarray .long, 2) := by decide +kernel
theorem dX11_init_995 : decode cX11_init 995 = .ok (.putfield 71, 3) := by decide +kernel
theorem dX11_init_998 : decode cX11_init 998 = .ok (.aload_n 0, 1) := by decide +kernel
theorem dX11_init_999 : decode cX11_init 999 = .ok (.iconst 4, 1) := by decide +kernel
theorem dX11_init_1000 : decode cX11_init 1000 = .ok (.newarray .int, 2) := by decide +kernel
theorem dX11_init_1002 : decode cX11_init 1002 = .ok (.putfield 75, 3) := by decide +kernel
theorem dX11_init_1005 : decode cX11_init 1005 = .ok (.aload_n 0, 1) := by decide +kernel
theorem dX11_init_1006 : decode cX11_init 1006 = .ok (.iconst (-1), 1) := by decide +kernel
theorem dX11_init_1007 : decode cX11_init 1007 = .ok (.putfield 78, 3) := by decide +kernel
theorem dX11_init_1010 : decode cX11_init 1010 = .ok (.aload_n 0, 1) := by decide +kernel
theorem dX11_init_1011 : decode cX11_init 1011 = .ok (.iconst 2, 1) := by decide +kernel
theorem dX11_init_1012 : decode cX11_init 1012 = .ok (.newarray .long, 2) := by decide +kernel
theorem dX11_init_1014 : decode cX11_init 1014 = .ok (.putfield 81, 3) := by decide +kernel
theorem dX11_init_1017 : decode cX11_init 1017 = .ok (.aload_n 0, 1) := by decide +kernel
theorem dX11_init_1018 : decode cX11_init 1018 = .ok (.bipush 23, 2) := by decide +kernel
theorem dX11_init_1020 : decode cX11_init 1020 = .ok (.newarray .int, 2) := by decide +kernel
theorem dX11_init_1022 : decode cX11_init 1022 = .ok (.putfield 84, 3) := by decide +kernel
theorem dX11_init_1025 : decode cX11_init 1025 = .ok (.aload_n 0, 1) := by decide +kernel
theorem dX11_init_1026 : decode cX11_init 1026 = .ok (.iconst (-1), 1) := by decide +kernel
theorem dX11_init_1027 : decode cX11_init 1027 = .ok (.putfield 87, 3) := by decide +kernel
theorem dX11_init_1030 : decode cX11_init 1030 = .ok (.iconst 0, 1) := by decide +kernel
theorem dX11_init_1031 : decode cX11_init 1031 = .ok (.istore_n 1, 1) := by decide +kernel
theorem dX11_init_1032 : decode cX11_init 1032 = .ok (.iload_n 1, 1) := by decide +kernel
theorem dX11_init_1033 : decode cX11_init 1033 = .ok (.bipush 6, 2) := by decide +kernel
theorem dX11_init_1035 : decode cX11_init 1035 = .ok (.if_icmp .ge 20, 3) := by decide +kernel
theorem dX11_init_1038 : decode cX11_init 1038 = .ok (.aload_n 0, 1) := by decide +kernel
theorem dX11_init_1039 : decode cX11_init 1039 = .ok (.getfield 24, 3) := by decide +kernel
theorem dX11_init_1042 : decode cX11_init 1042 = .ok (.bipush 51, 2) := by decide +kernel
theorem dX11_init_1044 : decode cX11_init 1044 = .ok (.iload_n 1, 1) := by decide +kernel
theorem dX11_init_1045 : decode cX11_init 1045 = .ok (.iadd, 1) := by decide +kernel
theorem dX11_init_1046 : decode cX11_init 1046 = .ok (.bipush 10, 2) := by decide +kernel
theorem dX11_init_1048 : decode cX11_init 1048 = .ok (.iastore, 1) := by decide +kernel
theorem dX11_init_1049 : decode cX11_init 1049 = .ok (.iinc 1 1, 3) := by decide +kernel
theorem dX11_init_1052 : decode cX11_init 1052 = .ok (.goto (-20), 3) := by decide +kernel
theorem dX11_init_1055 : decode cX11_init 1055 = .ok (.aload_n 0, 1) := by decide +kernel
theorem dX11_init_1056 : decode cX11_init 1056 = .ok (.getfield 24, 3) := by decide +kernel
theorem dX11_init_1059 : decode cX11_init 1059 = .ok (.bipush 73, 2) := by decide +kernel
theorem dX11_init_1061 : decode cX11_init 1061 = .ok (.sipush 200, 3) := by decide +kernel
theorem dX11_init_1064 : decode cX11_init 1064 = .ok (.iastore, 1) := by decide +kernel
theorem dX11_init_1065 : decode cX11_init 1065 = .ok (.aload_n 0, 1) := by decide +kernel
theorem dX11_init_1066 : decode cX11_init 1066 = .ok (.getfield 24, 3) := by decide +kernel
theorem dX11_init_1069 : decode cX11_init 1069 = .ok (.bipush 79, 2) := by decide +kernel
theorem dX11_init_1071 : decode cX11_init 1071 = .ok (.iconst (-1), 1) := by decide +kernel
theorem dX11_init_1072 : decode cX11_init 1072 = .ok (.iastore, 1) := by decide +kernel
theorem dX11_init_1073 : decode cX11_init 1073 = .ok (.return_, 1) := by decide +kernel
theorem dX11_laysAside_0 : decode cX11_laysAside 0 = .ok (.iconst 0, 1) := by decide +kernel
theorem dX11_laysAside_1 : decode cX11_laysAside 1 = .ok (.istore_n 2, 1) := by decide +kernel
theorem dX11_laysAside_2 : decode cX11_laysAside 2 = .ok (.iload_n 2, 1) := by decide +kernel
theorem dX11_laysAside_3 : decode cX11_laysAside 3 = .ok (.bipush 23, 2) := by decide +kernel
theorem dX11_laysAside_5 : decode cX11_laysAside 5 = .ok (.if_icmp .ge 26, 3) := by decide +kernel
theorem dX11_laysAside_8 : decode cX11_laysAside 8 = .ok (.aload_n 0, 1) := by decide +kernel
theorem dX11_laysAside_9 : decode cX11_laysAside 9 = .ok (.getfield 34, 3) := by decide +kernel
theorem dX11_laysAside_12 : decode cX11_laysAside 12 = .ok (.bipush 23, 2) := by decide +kernel
theorem dX11_laysAside_14 : decode cX11_laysAside 14 = .ok (.iload_n 1, 1) := by decide +kernel
theorem dX11_laysAside_15 : decode cX11_laysAside 15 = .ok (.imul, 1) := by decide +kernel
theorem dX11_laysAside_16 : decode cX11_laysAside 16 = .ok (.iload_n 2, 1) := by decide +kernel
theorem dX11_laysAside_17 : decode cX11_laysAside 17 = .ok (.iadd, 1) := by decide +kernel
theorem dX11_laysAside_18 : decode cX11_laysAside 18 = .ok (.aload_n 0, 1) := by decide +kernel
theorem dX11_laysAside_19 : decode cX11_laysAside 19 = .ok (.getfield 24, 3) := by decide +kernel
theorem dX11_laysAside_22 : decode cX11_laysAside 22 = .ok (.iload_n 2, 1) := by decide +kernel
theorem dX11_laysAside_23 : decode cX11_laysAside 23 = .ok (.iaload, 1) := by decide +kernel
theorem dX11_laysAside_24 : decode cX11_laysAside 24 = .ok (.iastore, 1) := by decide +kernel
theorem dX11_laysAside_25 : decode cX11_laysAside 25 = .ok (.iinc 2 1, 3) := by decide +kernel
theorem dX11_laysAside_28 : decode cX11_laysAside 28 = .ok (.goto (-26), 3) := by decide +kernel
theorem dX11_laysAside_31 : decode cX11_laysAside 31 = .ok (.return_, 1) := by decide +kernel
theorem dX11_takesBack_0 : decode cX11_takesBack 0 = .ok (.iconst 0, 1) := by decide +kernel
theorem dX11_takesBack_1 : decode cX11_takesBack 1 = .ok (.istore_n 2, 1) := by decide +kernel
theorem dX11_takesBack_2 : decode cX11_takesBack 2 = .ok (.iload_n 2, 1) := by decide +kernel
theorem dX11_takesBack_3 : decode cX11_takesBack 3 = .ok (.bipush 23, 2) := by decide +kernel
theorem dX11_takesBack_5 : decode cX11_takesBack 5 = .ok (.if_icmp .ge 26, 3) := by decide +kernel
theorem dX11_takesBack_8 : decode cX11_takesBack 8 = .ok (.aload_n 0, 1) := by decide +kernel
theorem dX11_takesBack_9 : decode cX11_takesBack 9 = .ok (.getfield 24, 3) := by decide +kernel
theorem dX11_takesBack_12 : decode cX11_takesBack 12 = .ok (.iload_n 2, 1) := by decide +kernel
theorem dX11_takesBack_13 : decode cX11_takesBack 13 = .ok (.aload_n 0, 1) := by decide +kernel
theorem dX11_takesBack_14 : decode cX11_takesBack 14 = .ok (.getfield 34, 3) := by decide +kernel
theorem dX11_takesBack_17 : decode cX11_takesBack 17 = .ok (.bipush 23, 2) := by decide +kernel
theorem dX11_takesBack_19 : decode cX11_takesBack 19 = .ok (.iload_n 1, 1) := by decide +kernel
theorem dX11_takesBack_20 : decode cX11_takesBack 20 = .ok (.imul, 1) := by decide +kernel
theorem dX11_takesBack_21 : decode cX11_takesBack 21 = .ok (.iload_n 2, 1) := by decide +kernel
theorem dX11_takesBack_22 : decode cX11_takesBack 22 = .ok (.iadd, 1) := by decide +kernel
theorem dX11_takesBack_23 : decode cX11_takesBack 23 = .ok (.iaload, 1) := by decide +kernel
theorem dX11_takesBack_24 : decode cX11_takesBack 24 = .ok (.iastore, 1) := by decide +kernel
theorem dX11_takesBack_25 : decode cX11_takesBack 25 = .ok (.iinc 2 1, 3) := by decide +kernel
theorem dX11_takesBack_28 : decode cX11_takesBack 28 = .ok (.goto (-26), 3) := by decide +kernel
theorem dX11_takesBack_31 : decode cX11_takesBack 31 = .ok (.return_, 1) := by decide +kernel
theorem dX11_image_0 : decode cX11_image 0 = .ok (.iload_n 1, 1) := by decide +kernel
theorem dX11_image_1 : decode cX11_image 1 = .ok (.iconst 0, 1) := by decide +kernel
theorem dX11_image_2 : decode cX11_image 2 = .ok (.iconst 1, 1) := by decide +kernel
theorem dX11_image_3 : decode cX11_image 3 = .ok (.invokestatic 90, 3) := by decide +kernel
theorem dX11_image_6 : decode cX11_image 6 = .ok (.ifCond .ne 9, 3) := by decide +kernel
theorem dX11_image_9 : decode cX11_image 9 = .ok (.aload_n 0, 1) := by decide +kernel
theorem dX11_image_10 : decode cX11_image 10 = .ok (.iconst (-1), 1) := by decide +kernel
theorem dX11_image_11 : decode cX11_image 11 = .ok (.invokevirtual 94, 3) := by decide +kernel
theorem dX11_image_14 : decode cX11_image 14 = .ok (.ireturn, 1) := by decide +kernel
theorem dX11_image_15 : decode cX11_image 15 = .ok (.iconst 0, 1) := by decide +kernel
theorem dX11_image_16 : decode cX11_image 16 = .ok (.istore_n 2, 1) := by decide +kernel
theorem dX11_image_17 : decode cX11_image 17 = .ok (.iload_n 2, 1) := by decide +kernel
theorem dX11_image_18 : decode cX11_image 18 = .ok (.sipush 5687, 3) := by decide +kernel
theorem dX11_image_21 : decode cX11_image 21 = .ok (.if_icmp .ge 27, 3) := by decide +kernel
theorem dX11_image_24 : decode cX11_image 24 = .ok (.aload_n 0, 1) := by decide +kernel
theorem dX11_image_25 : decode cX11_image 25 = .ok (.getfield 27, 3) := by decide +kernel
theorem dX11_image_28 : decode cX11_image 28 = .ok (.sipush 5687, 3) := by decide +kernel
theorem dX11_image_31 : decode cX11_image 31 = .ok (.iload_n 1, 1) := by decide +kernel
theorem dX11_image_32 : decode cX11_image 32 = .ok (.imul, 1) := by decide +kernel
theorem dX11_image_33 : decode cX11_image 33 = .ok (.iload_n 2, 1) := by decide +kernel
theorem dX11_image_34 : decode cX11_image 34 = .ok (.iadd, 1) := by decide +kernel
theorem dX11_image_35 : decode cX11_image 35 = .ok (.aload_n 0, 1) := by decide +kernel
theorem dX11_image_36 : decode cX11_image 36 = .ok (.getfield 24, 3) := by decide +kernel
theorem dX11_image_39 : decode cX11_image 39 = .ok (.iload_n 2, 1) := by decide +kernel
theorem dX11_image_40 : decode cX11_image 40 = .ok (.iaload, 1) := by decide +kernel
theorem dX11_image_41 : decode cX11_image 41 = .ok (.iastore, 1) := by decide +kernel
theorem dX11_image_42 : decode cX11_image 42 = .ok (.iinc 2 1, 3) := by decide +kernel
theorem dX11_image_45 : decode cX11_image 45 = .ok (.goto (-28), 3) := by decide +kernel
theorem dX11_image_48 : decode cX11_image 48 = .ok (.aload_n 0, 1) := by decide +kernel
theorem dX11_image_49 : decode cX11_image 49 = .ok (.getfield 30, 3) := by decide +kernel
theorem dX11_image_52 : decode cX11_image 52 = .ok (.iload_n 1, 1) := by decide +kernel
theorem dX11_image_53 : decode cX11_image 53 = .ok (.iconst 1, 1) := by decide +kernel
theorem dX11_image_54 : decode cX11_image 54 = .ok (.bastore, 1) := by decide +kernel
theorem dX11_image_55 : decode cX11_image 55 = .ok (.aload_n 0, 1) := by decide +kernel
theorem dX11_image_56 : decode cX11_image 56 = .ok (.iconst 0, 1) := by decide +kernel
theorem dX11_image_57 : decode cX11_image 57 = .ok (.invokevirtual 14, 3) := by decide +kernel
theorem dX11_image_60 : decode cX11_image 60 = .ok (.ireturn, 1) := by decide +kernel
theorem dX11_back_0 : decode cX11_back 0 = .ok (.iload_n 1, 1) := by decide +kernel
theorem dX11_back_1 : decode cX11_back 1 = .ok (.iconst 0, 1) := by decide +kernel
theorem dX11_back_2 : decode cX11_back 2 = .ok (.iconst 1, 1) := by decide +kernel
theorem dX11_back_3 : decode cX11_back 3 = .ok (.invokestatic 90, 3) := by decide +kernel
theorem dX11_back_6 : decode cX11_back 6 = .ok (.ifCond .ne 9, 3) := by decide +kernel
theorem dX11_back_9 : decode cX11_back 9 = .ok (.aload_n 0, 1) := by decide +kernel
theorem dX11_back_10 : decode cX11_back 10 = .ok (.iconst (-1), 1) := by decide +kernel
theorem dX11_back_11 : decode cX11_back 11 = .ok (.invokevirtual 94, 3) := by decide +kernel
theorem dX11_back_14 : decode cX11_back 14 = .ok (.ireturn, 1) := by decide +kernel
theorem dX11_back_15 : decode cX11_back 15 = .ok (.aload_n 0, 1) := by decide +kernel
theorem dX11_back_16 : decode cX11_back 16 = .ok (.getfield 30, 3) := by decide +kernel
theorem dX11_back_19 : decode cX11_back 19 = .ok (.iload_n 1, 1) := by decide +kernel
theorem dX11_back_20 : decode cX11_back 20 = .ok (.baload, 1) := by decide +kernel
theorem dX11_back_21 : decode cX11_back 21 = .ok (.ifCond .ne 10, 3) := by decide +kernel
theorem dX11_back_24 : decode cX11_back 24 = .ok (.aload_n 0, 1) := by decide +kernel
theorem dX11_back_25 : decode cX11_back 25 = .ok (.bipush (-2), 2) := by decide +kernel
theorem dX11_back_27 : decode cX11_back 27 = .ok (.invokevirtual 94, 3) := by decide +kernel
theorem dX11_back_30 : decode cX11_back 30 = .ok (.ireturn, 1) := by decide +kernel
theorem dX11_back_31 : decode cX11_back 31 = .ok (.iconst 0, 1) := by decide +kernel
theorem dX11_back_32 : decode cX11_back 32 = .ok (.istore_n 2, 1) := by decide +kernel
theorem dX11_back_33 : decode cX11_back 33 = .ok (.iload_n 2, 1) := by decide +kernel
theorem dX11_back_34 : decode cX11_back 34 = .ok (.sipush 5687, 3) := by decide +kernel
theorem dX11_back_37 : decode cX11_back 37 = .ok (.if_icmp .ge 27, 3) := by decide +kernel
theorem dX11_back_40 : decode cX11_back 40 = .ok (.aload_n 0, 1) := by decide +kernel
theorem dX11_back_41 : decode cX11_back 41 = .ok (.getfield 24, 3) := by decide +kernel
theorem dX11_back_44 : decode cX11_back 44 = .ok (.iload_n 2, 1) := by decide +kernel
theorem dX11_back_45 : decode cX11_back 45 = .ok (.aload_n 0, 1) := by decide +kernel
theorem dX11_back_46 : decode cX11_back 46 = .ok (.getfield 27, 3) := by decide +kernel
theorem dX11_back_49 : decode cX11_back 49 = .ok (.sipush 5687, 3) := by decide +kernel
theorem dX11_back_52 : decode cX11_back 52 = .ok (.iload_n 1, 1) := by decide +kernel
theorem dX11_back_53 : decode cX11_back 53 = .ok (.imul, 1) := by decide +kernel
theorem dX11_back_54 : decode cX11_back 54 = .ok (.iload_n 2, 1) := by decide +kernel
theorem dX11_back_55 : decode cX11_back 55 = .ok (.iadd, 1) := by decide +kernel
theorem dX11_back_56 : decode cX11_back 56 = .ok (.iaload, 1) := by decide +kernel
theorem dX11_back_57 : decode cX11_back 57 = .ok (.iastore, 1) := by decide +kernel
theorem dX11_back_58 : decode cX11_back 58 = .ok (.iinc 2 1, 3) := by decide +kernel
theorem dX11_back_61 : decode cX11_back 61 = .ok (.goto (-28), 3) := by decide +kernel
theorem dX11_back_64 : decode cX11_back 64 = .ok (.aload_n 0, 1) := by decide +kernel
theorem dX11_back_65 : decode cX11_back 65 = .ok (.iconst 0, 1) := by decide +kernel
theorem dX11_back_66 : decode cX11_back 66 = .ok (.invokevirtual 97, 3) := by decide +kernel
theorem dX11_back_69 : decode cX11_back 69 = .ok (.ireturn, 1) := by decide +kernel
theorem dX11_isHand_0 : decode cX11_isHand 0 = .ok (.iload_n 1, 1) := by decide +kernel
theorem dX11_isHand_1 : decode cX11_isHand 1 = .ok (.iconst 0, 1) := by decide +kernel
theorem dX11_isHand_2 : decode cX11_isHand 2 = .ok (.aload_n 0, 1) := by decide +kernel
theorem dX11_isHand_3 : decode cX11_isHand 3 = .ok (.getfield 24, 3) := by decide +kernel
theorem dX11_isHand_6 : decode cX11_isHand 6 = .ok (.bipush 75, 2) := by decide +kernel
theorem dX11_isHand_8 : decode cX11_isHand 8 = .ok (.iaload, 1) := by decide +kernel
theorem dX11_isHand_9 : decode cX11_isHand 9 = .ok (.iconst 1, 1) := by decide +kernel
theorem dX11_isHand_10 : decode cX11_isHand 10 = .ok (.isub, 1) := by decide +kernel
theorem dX11_isHand_11 : decode cX11_isHand 11 = .ok (.invokestatic 90, 3) := by decide +kernel
theorem dX11_isHand_14 : decode cX11_isHand 14 = .ok (.ireturn, 1) := by decide +kernel
theorem dX11_isGround_0 : decode cX11_isGround 0 = .ok (.iload_n 1, 1) := by decide +kernel
theorem dX11_isGround_1 : decode cX11_isGround 1 = .ok (.iconst 0, 1) := by decide +kernel
theorem dX11_isGround_2 : decode cX11_isGround 2 = .ok (.aload_n 0, 1) := by decide +kernel
theorem dX11_isGround_3 : decode cX11_isGround 3 = .ok (.getfield 24, 3) := by decide +kernel
theorem dX11_isGround_6 : decode cX11_isGround 6 = .ok (.bipush 76, 2) := by decide +kernel
theorem dX11_isGround_8 : decode cX11_isGround 8 = .ok (.iaload, 1) := by decide +kernel
theorem dX11_isGround_9 : decode cX11_isGround 9 = .ok (.iconst 1, 1) := by decide +kernel
theorem dX11_isGround_10 : decode cX11_isGround 10 = .ok (.isub, 1) := by decide +kernel
theorem dX11_isGround_11 : decode cX11_isGround 11 = .ok (.invokestatic 90, 3) := by decide +kernel
theorem dX11_isGround_14 : decode cX11_isGround 14 = .ok (.ireturn, 1) := by decide +kernel
theorem dX11_isAboard_0 : decode cX11_isAboard 0 = .ok (.aload_n 0, 1) := by decide +kernel
theorem dX11_isAboard_1 : decode cX11_isAboard 1 = .ok (.getfield 24, 3) := by decide +kernel
theorem dX11_isAboard_4 : decode cX11_isAboard 4 = .ok (.bipush 11, 2) := by decide +kernel
theorem dX11_isAboard_6 : decode cX11_isAboard 6 = .ok (.iload_n 1, 1) := by decide +kernel
theorem dX11_isAboard_7 : decode cX11_isAboard 7 = .ok (.iadd, 1) := by decide +kernel
theorem dX11_isAboard_8 : decode cX11_isAboard 8 = .ok (.iaload, 1) := by decide +kernel
theorem dX11_isAboard_9 : decode cX11_isAboard 9 = .ok (.iconst 1, 1) := by decide +kernel
theorem dX11_isAboard_10 : decode cX11_isAboard 10 = .ok (.if_icmp .ne 7, 3) := by decide +kernel
theorem dX11_isAboard_13 : decode cX11_isAboard 13 = .ok (.iconst 1, 1) := by decide +kernel
theorem dX11_isAboard_14 : decode cX11_isAboard 14 = .ok (.goto 4, 3) := by decide +kernel
theorem dX11_isAboard_17 : decode cX11_isAboard 17 = .ok (.iconst 0, 1) := by decide +kernel
theorem dX11_isAboard_18 : decode cX11_isAboard 18 = .ok (.ireturn, 1) := by decide +kernel
theorem dX11_crewNow_0 : decode cX11_crewNow 0 = .ok (.iconst 0, 1) := by decide +kernel
theorem dX11_crewNow_1 : decode cX11_crewNow 1 = .ok (.istore_n 1, 1) := by decide +kernel
theorem dX11_crewNow_2 : decode cX11_crewNow 2 = .ok (.iconst 0, 1) := by decide +kernel
theorem dX11_crewNow_3 : decode cX11_crewNow 3 = .ok (.istore_n 2, 1) := by decide +kernel
theorem dX11_crewNow_4 : decode cX11_crewNow 4 = .ok (.iload_n 2, 1) := by decide +kernel
theorem dX11_crewNow_5 : decode cX11_crewNow 5 = .ok (.aload_n 0, 1) := by decide +kernel
theorem dX11_crewNow_6 : decode cX11_crewNow 6 = .ok (.getfield 24, 3) := by decide +kernel
theorem dX11_crewNow_9 : decode cX11_crewNow 9 = .ok (.bipush 75, 2) := by decide +kernel
theorem dX11_crewNow_11 : decode cX11_crewNow 11 = .ok (.iaload, 1) := by decide +kernel
theorem dX11_crewNow_12 : decode cX11_crewNow 12 = .ok (.if_icmp .ge 21, 3) := by decide +kernel
theorem dX11_crewNow_15 : decode cX11_crewNow 15 = .ok (.iload_n 1, 1) := by decide +kernel
theorem dX11_crewNow_16 : decode cX11_crewNow 16 = .ok (.aload_n 0, 1) := by decide +kernel
theorem dX11_crewNow_17 : decode cX11_crewNow 17 = .ok (.getfield 24, 3) := by decide +kernel
theorem dX11_crewNow_20 : decode cX11_crewNow 20 = .ok (.bipush 11, 2) := by decide +kernel
theorem dX11_crewNow_22 : decode cX11_crewNow 22 = .ok (.iload_n 2, 1) := by decide +kernel
theorem dX11_crewNow_23 : decode cX11_crewNow 23 = .ok (.iadd, 1) := by decide +kernel
theorem dX11_crewNow_24 : decode cX11_crewNow 24 = .ok (.iaload, 1) := by decide +kernel
theorem dX11_crewNow_25 : decode cX11_crewNow 25 = .ok (.iadd, 1) := by decide +kernel
theorem dX11_crewNow_26 : decode cX11_crewNow 26 = .ok (.istore_n 1, 1) := by decide +kernel
theorem dX11_crewNow_27 : decode cX11_crewNow 27 = .ok (.iinc 2 1, 3) := by decide +kernel
theorem dX11_crewNow_30 : decode cX11_crewNow 30 = .ok (.goto (-26), 3) := by decide +kernel
theorem dX11_crewNow_33 : decode cX11_crewNow 33 = .ok (.iload_n 1, 1) := by decide +kernel
theorem dX11_crewNow_34 : decode cX11_crewNow 34 = .ok (.ireturn, 1) := by decide +kernel
theorem dX11_priceIn_0 : decode cX11_priceIn 0 = .ok (.aload_n 0, 1) := by decide +kernel
theorem dX11_priceIn_1 : decode cX11_priceIn 1 = .ok (.getfield 24, 3) := by decide +kernel
theorem dX11_priceIn_4 : decode cX11_priceIn 4 = .ok (.bipush 51, 2) := by decide +kernel
theorem dX11_priceIn_6 : decode cX11_priceIn 6 = .ok (.iload_n 1, 1) := by decide +kernel
theorem dX11_priceIn_7 : decode cX11_priceIn 7 = .ok (.bipush 12, 2) := by decide +kernel
theorem dX11_priceIn_9 : decode cX11_priceIn 9 = .ok (.idiv, 1) := by decide +kernel
theorem dX11_priceIn_10 : decode cX11_priceIn 10 = .ok (.iadd, 1) := by decide +kernel
theorem dX11_priceIn_11 : decode cX11_priceIn 11 = .ok (.iaload, 1) := by decide +kernel
theorem dX11_priceIn_12 : decode cX11_priceIn 12 = .ok (.ireturn, 1) := by decide +kernel
theorem dX11_sign_0 : decode cX11_sign 0 = .ok (.iload_n 1, 1) := by decide +kernel
theorem dX11_sign_1 : decode cX11_sign 1 = .ok (.iconst 1, 1) := by decide +kernel
theorem dX11_sign_2 : decode cX11_sign 2 = .ok (.sipush 999, 3) := by decide +kernel
theorem dX11_sign_5 : decode cX11_sign 5 = .ok (.invokestatic 90, 3) := by decide +kernel
theorem dX11_sign_8 : decode cX11_sign 8 = .ok (.ifCond .eq 14, 3) := by decide +kernel
theorem dX11_sign_11 : decode cX11_sign 11 = .ok (.iload_n 2, 1) := by decide +kernel
theorem dX11_sign_12 : decode cX11_sign 12 = .ok (.iconst 0, 1) := by decide +kernel
theorem dX11_sign_13 : decode cX11_sign 13 = .ok (.sipush 9999, 3) := by decide +kernel
theorem dX11_sign_16 : decode cX11_sign 16 = .ok (.invokestatic 90, 3) := by decide +kernel
theorem dX11_sign_19 : decode cX11_sign 19 = .ok (.ifCond .ne 9, 3) := by decide +kernel
theorem dX11_sign_22 : decode cX11_sign 22 = .ok (.aload_n 0, 1) := by decide +kernel
theorem dX11_sign_23 : decode cX11_sign 23 = .ok (.iconst (-1), 1) := by decide +kernel
theorem dX11_sign_24 : decode cX11_sign 24 = .ok (.invokevirtual 94, 3) := by decide +kernel
theorem dX11_sign_27 : decode cX11_sign 27 = .ok (.ireturn, 1) := by decide +kernel
theorem dX11_sign_28 : decode cX11_sign 28 = .ok (.aload_n 0, 1) := by decide +kernel
theorem dX11_sign_29 : decode cX11_sign 29 = .ok (.getfield 24, 3) := by decide +kernel
theorem dX11_sign_32 : decode cX11_sign 32 = .ok (.bipush 75, 2) := by decide +kernel
theorem dX11_sign_34 : decode cX11_sign 34 = .ok (.iaload, 1) := by decide +kernel
theorem dX11_sign_35 : decode cX11_sign 35 = .ok (.istore_n 3, 1) := by decide +kernel
theorem dX11_sign_36 : decode cX11_sign 36 = .ok (.iload_n 3, 1) := by decide +kernel
theorem dX11_sign_37 : decode cX11_sign 37 = .ok (.bipush 8, 2) := by decide +kernel
theorem dX11_sign_39 : decode cX11_sign 39 = .ok (.if_icmp .ne 10, 3) := by decide +kernel
theorem dX11_sign_42 : decode cX11_sign 42 = .ok (.aload_n 0, 1) := by decide +kernel
theorem dX11_sign_43 : decode cX11_sign 43 = .ok (.bipush (-5), 2) := by decide +kernel
theorem dX11_sign_45 : decode cX11_sign 45 = .ok (.invokevirtual 94, 3) := by decide +kernel
theorem dX11_sign_48 : decode cX11_sign 48 = .ok (.ireturn, 1) := by decide +kernel
theorem dX11_sign_49 : decode cX11_sign 49 = .ok (.aload_n 0, 1) := by decide +kernel
theorem dX11_sign_50 : decode cX11_sign 50 = .ok (.getfield 24, 3) := by decide +kernel
theorem dX11_sign_53 : decode cX11_sign 53 = .ok (.bipush 23, 2) := by decide +kernel
theorem dX11_sign_55 : decode cX11_sign 55 = .ok (.iload_n 3, 1) := by decide +kernel
theorem dX11_sign_56 : decode cX11_sign 56 = .ok (.iadd, 1) := by decide +kernel
theorem dX11_sign_57 : decode cX11_sign 57 = .ok (.iload_n 1, 1) := by decide +kernel
theorem dX11_sign_58 : decode cX11_sign 58 = .ok (.iastore, 1) := by decide +kernel
theorem dX11_sign_59 : decode cX11_sign 59 = .ok (.aload_n 0, 1) := by decide +kernel
theorem dX11_sign_60 : decode cX11_sign 60 = .ok (.getfield 24, 3) := by decide +kernel
theorem dX11_sign_63 : decode cX11_sign 63 = .ok (.iconst 3, 1) := by decide +kernel
theorem dX11_sign_64 : decode cX11_sign 64 = .ok (.iload_n 3, 1) := by decide +kernel
theorem dX11_sign_65 : decode cX11_sign 65 = .ok (.iadd, 1) := by decide +kernel
theorem dX11_sign_66 : decode cX11_sign 66 = .ok (.iload_n 2, 1) := by decide +kernel
theorem dX11_sign_67 : decode cX11_sign 67 = .ok (.iastore, 1) := by decide +kernel
theorem dX11_sign_68 : decode cX11_sign 68 = .ok (.aload_n 0, 1) := by decide +kernel
theorem dX11_sign_69 : decode cX11_sign 69 = .ok (.getfield 24, 3) := by decide +kernel
theorem dX11_sign_72 : decode cX11_sign 72 = .ok (.bipush 31, 2) := by decide +kernel
theorem dX11_sign_74 : decode cX11_sign 74 = .ok (.iload_n 3, 1) := by decide +kernel
theorem dX11_sign_75 : decode cX11_sign 75 = .ok (.iadd, 1) := by decide +kernel
theorem dX11_sign_76 : decode cX11_sign 76 = .ok (.aload_n 0, 1) := by decide +kernel
theorem dX11_sign_77 : decode cX11_sign 77 = .ok (.getfield 24, 3) := by decide +kernel
theorem dX11_sign_80 : decode cX11_sign 80 = .ok (.iconst 2, 1) := by decide +kernel
theorem dX11_sign_81 : decode cX11_sign 81 = .ok (.iaload, 1) := by decide +kernel
theorem dX11_sign_82 : decode cX11_sign 82 = .ok (.iastore, 1) := by decide +kernel
theorem dX11_sign_83 : decode cX11_sign 83 = .ok (.aload_n 0, 1) := by decide +kernel
theorem dX11_sign_84 : decode cX11_sign 84 = .ok (.getfield 24, 3) := by decide +kernel
theorem dX11_sign_87 : decode cX11_sign 87 = .ok (.bipush 11, 2) := by decide +kernel
theorem dX11_sign_89 : decode cX11_sign 89 = .ok (.iload_n 3, 1) := by decide +kernel
theorem dX11_sign_90 : decode cX11_sign 90 = .ok (.iadd, 1) := by decide +kernel
theorem dX11_sign_91 : decode cX11_sign 91 = .ok (.iconst 1, 1) := by decide +kernel
theorem dX11_sign_92 : decode cX11_sign 92 = .ok (.iastore, 1) := by decide +kernel
theorem dX11_sign_93 : decode cX11_sign 93 = .ok (.aload_n 0, 1) := by decide +kernel
theorem dX11_sign_94 : decode cX11_sign 94 = .ok (.getfield 24, 3) := by decide +kernel
theorem dX11_sign_97 : decode cX11_sign 97 = .ok (.bipush 75, 2) := by decide +kernel
theorem dX11_sign_99 : decode cX11_sign 99 = .ok (.dup2, 1) := by decide +kernel
theorem dX11_sign_100 : decode cX11_sign 100 = .ok (.iaload, 1) := by decide +kernel
theorem dX11_sign_101 : decode cX11_sign 101 = .ok (.iconst 1, 1) := by decide +kernel
theorem dX11_sign_102 : decode cX11_sign 102 = .ok (.iadd, 1) := by decide +kernel
theorem dX11_sign_103 : decode cX11_sign 103 = .ok (.iastore, 1) := by decide +kernel
theorem dX11_sign_104 : decode cX11_sign 104 = .ok (.aload_n 0, 1) := by decide +kernel
theorem dX11_sign_105 : decode cX11_sign 105 = .ok (.iload_n 3, 1) := by decide +kernel
theorem dX11_sign_106 : decode cX11_sign 106 = .ok (.invokevirtual 97, 3) := by decide +kernel
theorem dX11_sign_109 : decode cX11_sign 109 = .ok (.ireturn, 1) := by decide +kernel
theorem dX11_of_0 : decode cX11_of 0 = .ok (.aload_n 0, 1) := by decide +kernel
theorem dX11_of_1 : decode cX11_of 1 = .ok (.iload_n 1, 1) := by decide +kernel
theorem dX11_of_2 : decode cX11_of 2 = .ok (.invokevirtual 100, 3) := by decide +kernel
theorem dX11_of_5 : decode cX11_of 5 = .ok (.ifCond .ne 6, 3) := by decide +kernel
theorem dX11_of_8 : decode cX11_of 8 = .ok (.ldc 104, 2) := by decide +kernel
theorem dX11_of_10 : decode cX11_of 10 = .ok (.ireturn, 1) := by decide +kernel
theorem dX11_of_11 : decode cX11_of 11 = .ok (.iload_n 2, 1) := by decide +kernel
theorem dX11_of_12 : decode cX11_of 12 = .ok (.tableswitch 153 0 7 #[48, 58, 67, 77, 87, 93, 120, 126], 48) := by decide +kernel
theorem dX11_of_60 : decode cX11_of 60 = .ok (.aload_n 0, 1) := by decide +kernel
theorem dX11_of_61 : decode cX11_of 61 = .ok (.getfield 24, 3) := by decide +kernel
theorem dX11_of_64 : decode cX11_of 64 = .ok (.bipush 23, 2) := by decide +kernel
theorem dX11_of_66 : decode cX11_of 66 = .ok (.iload_n 1, 1) := by decide +kernel
theorem dX11_of_67 : decode cX11_of 67 = .ok (.iadd, 1) := by decide +kernel
theorem dX11_of_68 : decode cX11_of 68 = .ok (.iaload, 1) := by decide +kernel
theorem dX11_of_69 : decode cX11_of 69 = .ok (.ireturn, 1) := by decide +kernel
theorem dX11_of_70 : decode cX11_of 70 = .ok (.aload_n 0, 1) := by decide +kernel
theorem dX11_of_71 : decode cX11_of 71 = .ok (.getfield 24, 3) := by decide +kernel
theorem dX11_of_74 : decode cX11_of 74 = .ok (.iconst 3, 1) := by decide +kernel
theorem dX11_of_75 : decode cX11_of 75 = .ok (.iload_n 1, 1) := by decide +kernel
theorem dX11_of_76 : decode cX11_of 76 = .ok (.iadd, 1) := by decide +kernel
theorem dX11_of_77 : decode cX11_of 77 = .ok (.iaload, 1) := by decide +kernel
theorem dX11_of_78 : decode cX11_of 78 = .ok (.ireturn, 1) := by decide +kernel
theorem dX11_of_79 : decode cX11_of 79 = .ok (.aload_n 0, 1) := by decide +kernel
theorem dX11_of_80 : decode cX11_of 80 = .ok (.getfield 24, 3) := by decide +kernel
theorem dX11_of_83 : decode cX11_of 83 = .ok (.bipush 31, 2) := by decide +kernel
theorem dX11_of_85 : decode cX11_of 85 = .ok (.iload_n 1, 1) := by decide +kernel
theorem dX11_of_86 : decode cX11_of 86 = .ok (.iadd, 1) := by decide +kernel
theorem dX11_of_87 : decode cX11_of 87 = .ok (.iaload, 1) := by decide +kernel
theorem dX11_of_88 : decode cX11_of 88 = .ok (.ireturn, 1) := by decide +kernel
theorem dX11_of_89 : decode cX11_of 89 = .ok (.aload_n 0, 1) := by decide +kernel
theorem dX11_of_90 : decode cX11_of 90 = .ok (.getfield 24, 3) := by decide +kernel
theorem dX11_of_93 : decode cX11_of 93 = .ok (.bipush 11, 2) := by decide +kernel
theorem dX11_of_95 : decode cX11_of 95 = .ok (.iload_n 1, 1) := by decide +kernel
theorem dX11_of_96 : decode cX11_of 96 = .ok (.iadd, 1) := by decide +kernel
theorem dX11_of_97 : decode cX11_of 97 = .ok (.iaload, 1) := by decide +kernel
theorem dX11_of_98 : decode cX11_of 98 = .ok (.ireturn, 1) := by decide +kernel
theorem dX11_of_99 : decode cX11_of 99 = .ok (.aload_n 0, 1) := by decide +kernel
theorem dX11_of_100 : decode cX11_of 100 = .ok (.iload_n 1, 1) := by decide +kernel
theorem dX11_of_101 : decode cX11_of 101 = .ok (.invokevirtual 105, 3) := by decide +kernel
theorem dX11_of_104 : decode cX11_of 104 = .ok (.ireturn, 1) := by decide +kernel
theorem dX11_of_105 : decode cX11_of 105 = .ok (.aload_n 0, 1) := by decide +kernel
theorem dX11_of_106 : decode cX11_of 106 = .ok (.iload_n 1, 1) := by decide +kernel
theorem dX11_of_107 : decode cX11_of 107 = .ok (.aload_n 0, 1) := by decide +kernel
theorem dX11_of_108 : decode cX11_of 108 = .ok (.getfield 24, 3) := by decide +kernel
theorem dX11_of_111 : decode cX11_of 111 = .ok (.bipush 23, 2) := by decide +kernel
theorem dX11_of_113 : decode cX11_of 113 = .ok (.iload_n 1, 1) := by decide +kernel
theorem dX11_of_114 : decode cX11_of 114 = .ok (.iadd, 1) := by decide +kernel
theorem dX11_of_115 : decode cX11_of 115 = .ok (.iaload, 1) := by decide +kernel
theorem dX11_of_116 : decode cX11_of 116 = .ok (.aload_n 0, 1) := by decide +kernel
theorem dX11_of_117 : decode cX11_of 117 = .ok (.invokevirtual 108, 3) := by decide +kernel
theorem dX11_of_120 : decode cX11_of 120 = .ok (.invokevirtual 112, 3) := by decide +kernel
theorem dX11_of_123 : decode cX11_of 123 = .ok (.ifCond .eq 7, 3) := by decide +kernel
theorem dX11_of_126 : decode cX11_of 126 = .ok (.iconst 1, 1) := by decide +kernel
theorem dX11_of_127 : decode cX11_of 127 = .ok (.goto 4, 3) := by decide +kernel
theorem dX11_of_130 : decode cX11_of 130 = .ok (.iconst 0, 1) := by decide +kernel
theorem dX11_of_131 : decode cX11_of 131 = .ok (.ireturn, 1) := by decide +kernel
theorem dX11_of_132 : decode cX11_of 132 = .ok (.aload_n 0, 1) := by decide +kernel
theorem dX11_of_133 : decode cX11_of 133 = .ok (.iload_n 1, 1) := by decide +kernel
theorem dX11_of_134 : decode cX11_of 134 = .ok (.invokevirtual 115, 3) := by decide +kernel
theorem dX11_of_137 : decode cX11_of 137 = .ok (.ireturn, 1) := by decide +kernel
theorem dX11_of_138 : decode cX11_of 138 = .ok (.aload_n 0, 1) := by decide +kernel
theorem dX11_of_139 : decode cX11_of 139 = .ok (.iload_n 1, 1) := by decide +kernel
theorem dX11_of_140 : decode cX11_of 140 = .ok (.invokevirtual 118, 3) := by decide +kernel
theorem dX11_of_143 : decode cX11_of 143 = .ok (.ifCond .eq 20, 3) := by decide +kernel
theorem dX11_of_146 : decode cX11_of 146 = .ok (.aload_n 0, 1) := by decide +kernel
theorem dX11_of_147 : decode cX11_of 147 = .ok (.iload_n 1, 1) := by decide +kernel
theorem dX11_of_148 : decode cX11_of 148 = .ok (.invokevirtual 115, 3) := by decide +kernel
theorem dX11_of_151 : decode cX11_of 151 = .ok (.aload_n 0, 1) := by decide +kernel
theorem dX11_of_152 : decode cX11_of 152 = .ok (.getfield 24, 3) := by decide +kernel
theorem dX11_of_155 : decode cX11_of 155 = .ok (.iconst 3, 1) := by decide +kernel
theorem dX11_of_156 : decode cX11_of 156 = .ok (.iload_n 1, 1) := by decide +kernel
theorem dX11_of_157 : decode cX11_of 157 = .ok (.iadd, 1) := by decide +kernel
theorem dX11_of_158 : decode cX11_of 158 = .ok (.iaload, 1) := by decide +kernel
theorem dX11_of_159 : decode cX11_of 159 = .ok (.isub, 1) := by decide +kernel
theorem dX11_of_160 : decode cX11_of 160 = .ok (.goto 4, 3) := by decide +kernel
theorem dX11_of_163 : decode cX11_of 163 = .ok (.iconst 0, 1) := by decide +kernel
theorem dX11_of_164 : decode cX11_of 164 = .ok (.ireturn, 1) := by decide +kernel
theorem dX11_of_165 : decode cX11_of 165 = .ok (.ldc 104, 2) := by decide +kernel
theorem dX11_of_167 : decode cX11_of 167 = .ok (.ireturn, 1) := by decide +kernel
theorem dX11_canGround_0 : decode cX11_canGround 0 = .ok (.iload_n 0, 1) := by decide +kernel
theorem dX11_canGround_1 : decode cX11_canGround 1 = .ok (.iconst 0, 1) := by decide +kernel
theorem dX11_canGround_2 : decode cX11_canGround 2 = .ok (.bipush 99, 2) := by decide +kernel
theorem dX11_canGround_4 : decode cX11_canGround 4 = .ok (.invokestatic 90, 3) := by decide +kernel
theorem dX11_canGround_7 : decode cX11_canGround 7 = .ok (.ifCond .eq 47, 3) := by decide +kernel
theorem dX11_canGround_10 : decode cX11_canGround 10 = .ok (.iload_n 1, 1) := by decide +kernel
theorem dX11_canGround_11 : decode cX11_canGround 11 = .ok (.iconst 0, 1) := by decide +kernel
theorem dX11_canGround_12 : decode cX11_canGround 12 = .ok (.bipush 10, 2) := by decide +kernel
theorem dX11_canGround_14 : decode cX11_canGround 14 = .ok (.invokestatic 90, 3) := by decide +kernel
theorem dX11_canGround_17 : decode cX11_canGround 17 = .ok (.ifCond .eq 37, 3) := by decide +kernel
theorem dX11_canGround_20 : decode cX11_canGround 20 = .ok (.iload_n 2, 1) := by decide +kernel
theorem dX11_canGround_21 : decode cX11_canGround 21 = .ok (.iconst 0, 1) := by decide +kernel
theorem dX11_canGround_22 : decode cX11_canGround 22 = .ok (.bipush 10, 2) := by decide +kernel
theorem dX11_canGround_24 : decode cX11_canGround 24 = .ok (.invokestatic 90, 3) := by decide +kernel
theorem dX11_canGround_27 : decode cX11_canGround 27 = .ok (.ifCond .eq 27, 3) := by decide +kernel
theorem dX11_canGround_30 : decode cX11_canGround 30 = .ok (.iload_n 3, 1) := by decide +kernel
theorem dX11_canGround_31 : decode cX11_canGround 31 = .ok (.iconst 0, 1) := by decide +kernel
theorem dX11_canGround_32 : decode cX11_canGround 32 = .ok (.bipush 10, 2) := by decide +kernel
theorem dX11_canGround_34 : decode cX11_canGround 34 = .ok (.invokestatic 90, 3) := by decide +kernel
theorem dX11_canGround_37 : decode cX11_canGround 37 = .ok (.ifCond .eq 17, 3) := by decide +kernel
theorem dX11_canGround_40 : decode cX11_canGround 40 = .ok (.iload_n 1, 1) := by decide +kernel
theorem dX11_canGround_41 : decode cX11_canGround 41 = .ok (.iload_n 2, 1) := by decide +kernel
theorem dX11_canGround_42 : decode cX11_canGround 42 = .ok (.iadd, 1) := by decide +kernel
theorem dX11_canGround_43 : decode cX11_canGround 43 = .ok (.iload_n 3, 1) := by decide +kernel
theorem dX11_canGround_44 : decode cX11_canGround 44 = .ok (.iadd, 1) := by decide +kernel
theorem dX11_canGround_45 : decode cX11_canGround 45 = .ok (.bipush 10, 2) := by decide +kernel
theorem dX11_canGround_47 : decode cX11_canGround 47 = .ok (.if_icmp .gt 7, 3) := by decide +kernel
theorem dX11_canGround_50 : decode cX11_canGround 50 = .ok (.iconst 1, 1) := by decide +kernel
theorem dX11_canGround_51 : decode cX11_canGround 51 = .ok (.goto 4, 3) := by decide +kernel
theorem dX11_canGround_54 : decode cX11_canGround 54 = .ok (.iconst 0, 1) := by decide +kernel
theorem dX11_canGround_55 : decode cX11_canGround 55 = .ok (.ireturn, 1) := by decide +kernel
theorem dX11_addsGround_0 : decode cX11_addsGround 0 = .ok (.aload_n 0, 1) := by decide +kernel
theorem dX11_addsGround_1 : decode cX11_addsGround 1 = .ok (.getfield 24, 3) := by decide +kernel
theorem dX11_addsGround_4 : decode cX11_addsGround 4 = .ok (.bipush 76, 2) := by decide +kernel
theorem dX11_addsGround_6 : decode cX11_addsGround 6 = .ok (.iaload, 1) := by decide +kernel
theorem dX11_addsGround_7 : decode cX11_addsGround 7 = .ok (.istore 5, 2) := by decide +kernel
theorem dX11_addsGround_9 : decode cX11_addsGround 9 = .ok (.aload_n 0, 1) := by decide +kernel
theorem dX11_addsGround_10 : decode cX11_addsGround 10 = .ok (.getfield 24, 3) := by decide +kernel
theorem dX11_addsGround_13 : decode cX11_addsGround 13 = .ok (.bipush 19, 2) := by decide +kernel
theorem dX11_addsGround_15 : decode cX11_addsGround 15 = .ok (.iload 5, 2) := by decide +kernel
theorem dX11_addsGround_17 : decode cX11_addsGround 17 = .ok (.iadd, 1) := by decide +kernel
theorem dX11_addsGround_18 : decode cX11_addsGround 18 = .ok (.iload_n 1, 1) := by decide +kernel
theorem dX11_addsGround_19 : decode cX11_addsGround 19 = .ok (.iastore, 1) := by decide +kernel
theorem dX11_addsGround_20 : decode cX11_addsGround 20 = .ok (.aload_n 0, 1) := by decide +kernel
theorem dX11_addsGround_21 : decode cX11_addsGround 21 = .ok (.getfield 24, 3) := by decide +kernel
theorem dX11_addsGround_24 : decode cX11_addsGround 24 = .ok (.bipush 39, 2) := by decide +kernel
theorem dX11_addsGround_26 : decode cX11_addsGround 26 = .ok (.iconst 3, 1) := by decide +kernel
theorem dX11_addsGround_27 : decode cX11_addsGround 27 = .ok (.iload 5, 2) := by decide +kernel
theorem dX11_addsGround_29 : decode cX11_addsGround 29 = .ok (.imul, 1) := by decide +kernel
theorem dX11_addsGround_30 : decode cX11_addsGround 30 = .ok (.iadd, 1) := by decide +kernel
theorem dX11_addsGround_31 : decode cX11_addsGround 31 = .ok (.iload_n 2, 1) := by decide +kernel
theorem dX11_addsGround_32 : decode cX11_addsGround 32 = .ok (.iastore, 1) := by decide +kernel
theorem dX11_addsGround_33 : decode cX11_addsGround 33 = .ok (.aload_n 0, 1) := by decide +kernel
theorem dX11_addsGround_34 : decode cX11_addsGround 34 = .ok (.getfield 24, 3) := by decide +kernel
theorem dX11_addsGround_37 : decode cX11_addsGround 37 = .ok (.bipush 39, 2) := by decide +kernel
theorem dX11_addsGround_39 : decode cX11_addsGround 39 = .ok (.iconst 3, 1) := by decide +kernel
theorem dX11_addsGround_40 : decode cX11_addsGround 40 = .ok (.iload 5, 2) := by decide +kernel
theorem dX11_addsGround_42 : decode cX11_addsGround 42 = .ok (.imul, 1) := by decide +kernel
theorem dX11_addsGround_43 : decode cX11_addsGround 43 = .ok (.iadd, 1) := by decide +kernel
theorem dX11_addsGround_44 : decode cX11_addsGround 44 = .ok (.iconst 1, 1) := by decide +kernel
theorem dX11_addsGround_45 : decode cX11_addsGround 45 = .ok (.iadd, 1) := by decide +kernel
theorem dX11_addsGround_46 : decode cX11_addsGround 46 = .ok (.iload_n 3, 1) := by decide +kernel
theorem dX11_addsGround_47 : decode cX11_addsGround 47 = .ok (.iastore, 1) := by decide +kernel
theorem dX11_addsGround_48 : decode cX11_addsGround 48 = .ok (.aload_n 0, 1) := by decide +kernel
theorem dX11_addsGround_49 : decode cX11_addsGround 49 = .ok (.getfield 24, 3) := by decide +kernel
theorem dX11_addsGround_52 : decode cX11_addsGround 52 = .ok (.bipush 39, 2) := by decide +kernel
theorem dX11_addsGround_54 : decode cX11_addsGround 54 = .ok (.iconst 3, 1) := by decide +kernel
theorem dX11_addsGround_55 : decode cX11_addsGround 55 = .ok (.iload 5, 2) := by decide +kernel
theorem dX11_addsGround_57 : decode cX11_addsGround 57 = .ok (.imul, 1) := by decide +kernel
theorem dX11_addsGround_58 : decode cX11_addsGround 58 = .ok (.iadd, 1) := by decide +kernel
theorem dX11_addsGround_59 : decode cX11_addsGround 59 = .ok (.iconst 2, 1) := by decide +kernel
theorem dX11_addsGround_60 : decode cX11_addsGround 60 = .ok (.iadd, 1) := by decide +kernel
theorem dX11_addsGround_61 : decode cX11_addsGround 61 = .ok (.iload 4, 2) := by decide +kernel
theorem dX11_addsGround_63 : decode cX11_addsGround 63 = .ok (.iastore, 1) := by decide +kernel
theorem dX11_addsGround_64 : decode cX11_addsGround 64 = .ok (.aload_n 0, 1) := by decide +kernel
theorem dX11_addsGround_65 : decode cX11_addsGround 65 = .ok (.getfield 24, 3) := by decide +kernel
theorem dX11_addsGround_68 : decode cX11_addsGround 68 = .ok (.bipush 76, 2) := by decide +kernel
theorem dX11_addsGround_70 : decode cX11_addsGround 70 = .ok (.dup2, 1) := by decide +kernel
theorem dX11_addsGround_71 : decode cX11_addsGround 71 = .ok (.iaload, 1) := by decide +kernel
theorem dX11_addsGround_72 : decode cX11_addsGround 72 = .ok (.iconst 1, 1) := by decide +kernel
theorem dX11_addsGround_73 : decode cX11_addsGround 73 = .ok (.iadd, 1) := by decide +kernel
theorem dX11_addsGround_74 : decode cX11_addsGround 74 = .ok (.iastore, 1) := by decide +kernel
theorem dX11_addsGround_75 : decode cX11_addsGround 75 = .ok (.return_, 1) := by decide +kernel
theorem dX11_ground_0 : decode cX11_ground 0 = .ok (.iload_n 1, 1) := by decide +kernel
theorem dX11_ground_1 : decode cX11_ground 1 = .ok (.iload_n 2, 1) := by decide +kernel
theorem dX11_ground_2 : decode cX11_ground 2 = .ok (.iload_n 3, 1) := by decide +kernel
theorem dX11_ground_3 : decode cX11_ground 3 = .ok (.iload 4, 2) := by decide +kernel
theorem dX11_ground_5 : decode cX11_ground 5 = .ok (.invokestatic 121, 3) := by decide +kernel
theorem dX11_ground_8 : decode cX11_ground 8 = .ok (.ifCond .ne 9, 3) := by decide +kernel
theorem dX11_ground_11 : decode cX11_ground 11 = .ok (.aload_n 0, 1) := by decide +kernel
theorem dX11_ground_12 : decode cX11_ground 12 = .ok (.iconst (-1), 1) := by decide +kernel
theorem dX11_ground_13 : decode cX11_ground 13 = .ok (.invokevirtual 94, 3) := by decide +kernel
theorem dX11_ground_16 : decode cX11_ground 16 = .ok (.ireturn, 1) := by decide +kernel
theorem dX11_ground_17 : decode cX11_ground 17 = .ok (.aload_n 0, 1) := by decide +kernel
theorem dX11_ground_18 : decode cX11_ground 18 = .ok (.getfield 24, 3) := by decide +kernel
theorem dX11_ground_21 : decode cX11_ground 21 = .ok (.bipush 76, 2) := by decide +kernel
theorem dX11_ground_23 : decode cX11_ground 23 = .ok (.iaload, 1) := by decide +kernel
theorem dX11_ground_24 : decode cX11_ground 24 = .ok (.iconst 4, 1) := by decide +kernel
theorem dX11_ground_25 : decode cX11_ground 25 = .ok (.if_icmp .ne 10, 3) := by decide +kernel
theorem dX11_ground_28 : decode cX11_ground 28 = .ok (.aload_n 0, 1) := by decide +kernel
theorem dX11_ground_29 : decode cX11_ground 29 = .ok (.bipush (-5), 2) := by decide +kernel
theorem dX11_ground_31 : decode cX11_ground 31 = .ok (.invokevirtual 94, 3) := by decide +kernel
theorem dX11_ground_34 : decode cX11_ground 34 = .ok (.ireturn, 1) := by decide +kernel
theorem dX11_ground_35 : decode cX11_ground 35 = .ok (.aload_n 0, 1) := by decide +kernel
theorem dX11_ground_36 : decode cX11_ground 36 = .ok (.iload_n 1, 1) := by decide +kernel
theorem dX11_ground_37 : decode cX11_ground 37 = .ok (.iload_n 2, 1) := by decide +kernel
theorem dX11_ground_38 : decode cX11_ground 38 = .ok (.iload_n 3, 1) := by decide +kernel
theorem dX11_ground_39 : decode cX11_ground 39 = .ok (.iload 4, 2) := by decide +kernel
theorem dX11_ground_41 : decode cX11_ground 41 = .ok (.invokevirtual 125, 3) := by decide +kernel
theorem dX11_ground_44 : decode cX11_ground 44 = .ok (.aload_n 0, 1) := by decide +kernel
theorem dX11_ground_45 : decode cX11_ground 45 = .ok (.aload_n 0, 1) := by decide +kernel
theorem dX11_ground_46 : decode cX11_ground 46 = .ok (.getfield 24, 3) := by decide +kernel
theorem dX11_ground_49 : decode cX11_ground 49 = .ok (.bipush 76, 2) := by decide +kernel
theorem dX11_ground_51 : decode cX11_ground 51 = .ok (.iaload, 1) := by decide +kernel
