theorem dX10_init_0 : decode cX10_init 0 = .ok (.aload_n 0, 1) := by decide +kernel
theorem dX10_init_1 : decode cX10_init 1 = .ok (.invokespecial 1, 3) := by decide +kernel
theorem dX10_init_4 : decode cX10_init 4 = .ok (.aload_n 0, 1) := by decide +kernel
theorem dX10_init_5 : decode cX10_init 5 = .ok (.new 7, 3) := by decide +kernel
theorem dX10_init_8 : decode cX10_init 8 = .ok (.dup, 1) := by decide +kernel
theorem dX10_init_9 : decode cX10_init 9 = .ok (.invokespecial 9, 3) := by decide +kernel
theorem dX10_init_12 : decode cX10_init 12 = .ok (.putfield 10, 3) := by decide +kernel
theorem dX10_init_15 : decode cX10_init 15 = .ok (.aload_n 0, 1) := by decide +kernel
theorem dX10_init_16 : decode cX10_init 16 = .ok (.new 7, 3) := by decide +kernel
theorem dX10_init_19 : decode cX10_init 19 = .ok (.dup, 1) := by decide +kernel
theorem dX10_init_20 : decode cX10_init 20 = .ok (.invokespecial 9, 3) := by decide +kernel
theorem dX10_init_23 : decode cX10_init 23 = .ok (.putfield 16, 3) := by decide +kernel
theorem dX10_init_26 : decode cX10_init 26 = .ok (.aload_n 0, 1) := by decide +kernel
theorem dX10_init_27 : decode cX10_init 27 = .ok (.iconst 2, 1) := by decide +kernel
theorem dX10_init_28 : decode cX10_init 28 = .ok (.anewarray 7, 3) := by decide +kernel
theorem dX10_init_31 : decode cX10_init 31 = .ok (.putfield 19, 3) := by decide +kernel
theorem dX10_init_34 : decode cX10_init 34 = .ok (.aload_n 0, 1) := by decide +kernel
theorem dX10_init_35 : decode cX10_init 35 = .ok (.new 23, 3) := by decide +kernel
theorem dX10_init_38 : decode cX10_init 38 = .ok (.dup, 1) := by decide +kernel
theorem dX10_init_39 : decode cX10_init 39 = .ok (.invokespecial 25, 3) := by decide +kernel
theorem dX10_init_42 : decode cX10_init 42 = .ok (.putfield 26, 3) := by decide +kernel
theorem dX10_init_45 : decode cX10_init 45 = .ok (.aload_n 0, 1) := by decide +kernel
theorem dX10_init_46 : decode cX10_init 46 = .ok (.new 23, 3) := by decide +kernel
theorem dX10_init_49 : decode cX10_init 49 = .ok (.dup, 1) := by decide +kernel
theorem dX10_init_50 : decode cX10_init 50 = .ok (.invokespecial 25, 3) := by decide +kernel
theorem dX10_init_53 : decode cX10_init 53 = .ok (.putfield 30, 3) := by decide +kernel
theorem dX10_init_56 : decode cX10_init 56 = .ok (.aload_n 0, 1) := by decide +kernel
theorem dX10_init_57 : decode cX10_init 57 = .ok (.new 33, 3) := by decide +kernel
theorem dX10_init_60 : decode cX10_init 60 = .ok (.dup, 1) := by decide +kernel
theorem dX10_init_61 : decode cX10_init 61 = .ok (.invokespecial 35, 3) := by decide +kernel
theorem dX10_init_64 : decode cX10_init 64 = .ok (.putfield 36, 3) := by decide +kernel
theorem dX10_init_67 : decode cX10_init 67 = .ok (.aload_n 0, 1) := by decide +kernel
theorem dX10_init_68 : decode cX10_init 68 = .ok (.new 40, 3) := by decide +kernel
theorem dX10_init_71 : decode cX10_init 71 = .ok (.dup, 1) := by decide +kernel
theorem dX10_init_72 : decode cX10_init 72 = .ok (.invokespecial 42, 3) := by decide +kernel
theorem dX10_init_75 : decode cX10_init 75 = .ok (.putfield 43, 3) := by decide +kernel
theorem dX10_init_78 : decode cX10_init 78 = .ok (.aload_n 0, 1) := by decide +kernel
theorem dX10_init_79 : decode cX10_init 79 = .ok (.new 47, 3) := by decide +kernel
theorem dX10_init_82 : decode cX10_init 82 = .ok (.dup, 1) := by decide +kernel
theorem dX10_init_83 : decode cX10_init 83 = .ok (.invokespecial 49, 3) := by decide +kernel
theorem dX10_init_86 : decode cX10_init 86 = .ok (.putfield 50, 3) := by decide +kernel
theorem dX10_init_89 : decode cX10_init 89 = .ok (.aload_n 0, 1) := by decide +kernel
theorem dX10_init_90 : decode cX10_init 90 = .ok (.new 54, 3) := by decide +kernel
theorem dX10_init_93 : decode cX10_init 93 = .ok (.dup, 1) := by decide +kernel
theorem dX10_init_94 : decode cX10_init 94 = .ok (.aload_n 0, 1) := by decide +kernel
theorem dX10_init_95 : decode cX10_init 95 = .ok (.getfield 50, 3) := by decide +kernel
theorem dX10_init_98 : decode cX10_init 98 = .ok (.invokespecial 56, 3) := by decide +kernel
theorem dX10_init_101 : decode cX10_init 101 = .ok (.putfield 59, 3) := by decide +kernel
theorem dX10_init_104 : decode cX10_init 104 = .ok (.aload_n 0, 1) := by decide +kernel
theorem dX10_init_105 : decode cX10_init 105 = .ok (.new 63, 3) := by decide +kernel
theorem dX10_init_108 : decode cX10_init 108 = .ok (.dup, 1) := by decide +kernel
theorem dX10_init_109 : decode cX10_init 109 = .ok (.aload_n 0, 1) := by decide +kernel
theorem dX10_init_110 : decode cX10_init 110 = .ok (.getfield 59, 3) := by decide +kernel
theorem dX10_init_113 : decode cX10_init 113 = .ok (.invokespecial 65, 3) := by decide +kernel
theorem dX10_init_116 : decode cX10_init 116 = .ok (.putfield 68, 3) := by decide +kernel
theorem dX10_init_119 : decode cX10_init 119 = .ok (.aload_n 0, 1) := by decide +kernel
theorem dX10_init_120 : decode cX10_init 120 = .ok (.new 72, 3) := by decide +kernel
theorem dX10_init_123 : decode cX10_init 123 = .ok (.dup, 1) := by decide +kernel
theorem dX10_init_124 : decode cX10_init 124 = .ok (.aload_n 0, 1) := by decide +kernel
theorem dX10_init_125 : decode cX10_init 125 = .ok (.getfield 50, 3) := by decide +kernel
theorem dX10_init_128 : decode cX10_init 128 = .ok (.invokespecial 74, 3) := by decide +kernel
theorem dX10_init_131 : decode cX10_init 131 = .ok (.putfield 75, 3) := by decide +kernel
theorem dX10_init_134 : decode cX10_init 134 = .ok (.aload_n 0, 1) := by decide +kernel
theorem dX10_init_135 : decode cX10_init 135 = .ok (.iconst (-1), 1) := by decide +kernel
theorem dX10_init_136 : decode cX10_init 136 = .ok (.putfield 79, 3) := by decide +kernel
theorem dX10_init_139 : decode cX10_init 139 = .ok (.aload_n 0, 1) := by decide +kernel
theorem dX10_init_140 : decode cX10_init 140 = .ok (.iconst (-1), 1) := by decide +kernel
theorem dX10_init_141 : decode cX10_init 141 = .ok (.putfield 83, 3) := by decide +kernel
theorem dX10_init_144 : decode cX10_init 144 = .ok (.aload_n 0, 1) := by decide +kernel
theorem dX10_init_145 : decode cX10_init 145 = .ok (.bipush 7, 2) := by decide +kernel
theorem dX10_init_147 : decode cX10_init 147 = .ok (.newarray .int, 2) := by decide +kernel
theorem dX10_init_149 : decode cX10_init 149 = .ok (.putfield 86, 3) := by decide +kernel
theorem dX10_init_152 : decode cX10_init 152 = .ok (.return_, 1) := by decide +kernel
theorem dX10_sign_0 : decode cX10_sign 0 = .ok (.iload_n 1, 1) := by decide +kernel
theorem dX10_sign_1 : decode cX10_sign 1 = .ok (.iconst 1, 1) := by decide +kernel
theorem dX10_sign_2 : decode cX10_sign 2 = .ok (.if_icmp .lt 21, 3) := by decide +kernel
theorem dX10_sign_5 : decode cX10_sign 5 = .ok (.iload_n 1, 1) := by decide +kernel
theorem dX10_sign_6 : decode cX10_sign 6 = .ok (.sipush 999, 3) := by decide +kernel
theorem dX10_sign_9 : decode cX10_sign 9 = .ok (.if_icmp .gt 14, 3) := by decide +kernel
theorem dX10_sign_12 : decode cX10_sign 12 = .ok (.iload_n 2, 1) := by decide +kernel
theorem dX10_sign_13 : decode cX10_sign 13 = .ok (.ifCond .lt 10, 3) := by decide +kernel
theorem dX10_sign_16 : decode cX10_sign 16 = .ok (.iload_n 2, 1) := by decide +kernel
theorem dX10_sign_17 : decode cX10_sign 17 = .ok (.sipush 9999, 3) := by decide +kernel
theorem dX10_sign_20 : decode cX10_sign 20 = .ok (.if_icmp .le 9, 3) := by decide +kernel
theorem dX10_sign_23 : decode cX10_sign 23 = .ok (.aload_n 0, 1) := by decide +kernel
theorem dX10_sign_24 : decode cX10_sign 24 = .ok (.iconst (-1), 1) := by decide +kernel
theorem dX10_sign_25 : decode cX10_sign 25 = .ok (.invokevirtual 90, 3) := by decide +kernel
theorem dX10_sign_28 : decode cX10_sign 28 = .ok (.ireturn, 1) := by decide +kernel
theorem dX10_sign_29 : decode cX10_sign 29 = .ok (.aload_n 0, 1) := by decide +kernel
theorem dX10_sign_30 : decode cX10_sign 30 = .ok (.getfield 10, 3) := by decide +kernel
theorem dX10_sign_33 : decode cX10_sign 33 = .ok (.getfield 94, 3) := by decide +kernel
theorem dX10_sign_36 : decode cX10_sign 36 = .ok (.bipush 8, 2) := by decide +kernel
theorem dX10_sign_38 : decode cX10_sign 38 = .ok (.if_icmp .lt 10, 3) := by decide +kernel
theorem dX10_sign_41 : decode cX10_sign 41 = .ok (.aload_n 0, 1) := by decide +kernel
theorem dX10_sign_42 : decode cX10_sign 42 = .ok (.bipush (-5), 2) := by decide +kernel
theorem dX10_sign_44 : decode cX10_sign 44 = .ok (.invokevirtual 90, 3) := by decide +kernel
theorem dX10_sign_47 : decode cX10_sign 47 = .ok (.ireturn, 1) := by decide +kernel
theorem dX10_sign_48 : decode cX10_sign 48 = .ok (.aload_n 0, 1) := by decide +kernel
theorem dX10_sign_49 : decode cX10_sign 49 = .ok (.getfield 26, 3) := by decide +kernel
theorem dX10_sign_52 : decode cX10_sign 52 = .ok (.invokevirtual 97, 3) := by decide +kernel
theorem dX10_sign_55 : decode cX10_sign 55 = .ok (.aload_n 0, 1) := by decide +kernel
theorem dX10_sign_56 : decode cX10_sign 56 = .ok (.aload_n 0, 1) := by decide +kernel
theorem dX10_sign_57 : decode cX10_sign 57 = .ok (.getfield 10, 3) := by decide +kernel
theorem dX10_sign_60 : decode cX10_sign 60 = .ok (.iload_n 1, 1) := by decide +kernel
theorem dX10_sign_61 : decode cX10_sign 61 = .ok (.iload_n 2, 1) := by decide +kernel
theorem dX10_sign_62 : decode cX10_sign 62 = .ok (.invokevirtual 100, 3) := by decide +kernel
theorem dX10_sign_65 : decode cX10_sign 65 = .ok (.invokevirtual 104, 3) := by decide +kernel
theorem dX10_sign_68 : decode cX10_sign 68 = .ok (.ireturn, 1) := by decide +kernel
theorem dX10_of_0 : decode cX10_of 0 = .ok (.aload_n 0, 1) := by decide +kernel
theorem dX10_of_1 : decode cX10_of 1 = .ok (.getfield 10, 3) := by decide +kernel
theorem dX10_of_4 : decode cX10_of 4 = .ok (.iload_n 1, 1) := by decide +kernel
theorem dX10_of_5 : decode cX10_of 5 = .ok (.invokevirtual 107, 3) := by decide +kernel
theorem dX10_of_8 : decode cX10_of 8 = .ok (.ifCond .ne 6, 3) := by decide +kernel
theorem dX10_of_11 : decode cX10_of 11 = .ok (.ldc 111, 2) := by decide +kernel
theorem dX10_of_13 : decode cX10_of 13 = .ok (.ireturn, 1) := by decide +kernel
theorem dX10_of_14 : decode cX10_of 14 = .ok (.iload_n 2, 1) := by decide +kernel
theorem dX10_of_15 : decode cX10_of 15 = .ok (.tableswitch 185 0 7 #[45, 55, 65, 75, 92, 105, 142, 151], 45) := by decide +kernel
theorem dX10_of_60 : decode cX10_of 60 = .ok (.aload_n 0, 1) := by decide +kernel
theorem dX10_of_61 : decode cX10_of 61 = .ok (.getfield 10, 3) := by decide +kernel
theorem dX10_of_64 : decode cX10_of 64 = .ok (.getfield 112, 3) := by decide +kernel
theorem dX10_of_67 : decode cX10_of 67 = .ok (.iload_n 1, 1) := by decide +kernel
theorem dX10_of_68 : decode cX10_of 68 = .ok (.iaload, 1) := by decide +kernel
theorem dX10_of_69 : decode cX10_of 69 = .ok (.ireturn, 1) := by decide +kernel
theorem dX10_of_70 : decode cX10_of 70 = .ok (.aload_n 0, 1) := by decide +kernel
theorem dX10_of_71 : decode cX10_of 71 = .ok (.getfield 10, 3) := by decide +kernel
theorem dX10_of_74 : decode cX10_of 74 = .ok (.getfield 115, 3) := by decide +kernel
theorem dX10_of_77 : decode cX10_of 77 = .ok (.iload_n 1, 1) := by decide +kernel
theorem dX10_of_78 : decode cX10_of 78 = .ok (.iaload, 1) := by decide +kernel
theorem dX10_of_79 : decode cX10_of 79 = .ok (.ireturn, 1) := by decide +kernel
theorem dX10_of_80 : decode cX10_of 80 = .ok (.aload_n 0, 1) := by decide +kernel
theorem dX10_of_81 : decode cX10_of 81 = .ok (.getfield 10, 3) := by decide +kernel
theorem dX10_of_84 : decode cX10_of 84 = .ok (.getfield 118, 3) := by decide +kernel
theorem dX10_of_87 : decode cX10_of 87 = .ok (.iload_n 1, 1) := by decide +kernel
theorem dX10_of_88 : decode cX10_of 88 = .ok (.iaload, 1) := by decide +kernel
theorem dX10_of_89 : decode cX10_of 89 = .ok (.ireturn, 1) := by decide +kernel
theorem dX10_of_90 : decode cX10_of 90 = .ok (.aload_n 0, 1) := by decide +kernel
theorem dX10_of_91 : decode cX10_of 91 = .ok (.getfield 10, 3) := by decide +kernel
theorem dX10_of_94 : decode cX10_of 94 = .ok (.iload_n 1, 1) := by decide +kernel
theorem dX10_of_95 : decode cX10_of 95 = .ok (.invokevirtual 121, 3) := by decide +kernel
theorem dX10_of_98 : decode cX10_of 98 = .ok (.ifCond .eq 7, 3) := by decide +kernel
theorem dX10_of_101 : decode cX10_of 101 = .ok (.iconst 1, 1) := by decide +kernel
theorem dX10_of_102 : decode cX10_of 102 = .ok (.goto 4, 3) := by decide +kernel
theorem dX10_of_105 : decode cX10_of 105 = .ok (.iconst 0, 1) := by decide +kernel
theorem dX10_of_106 : decode cX10_of 106 = .ok (.ireturn, 1) := by decide +kernel
theorem dX10_of_107 : decode cX10_of 107 = .ok (.aload_n 0, 1) := by decide +kernel
theorem dX10_of_108 : decode cX10_of 108 = .ok (.getfield 50, 3) := by decide +kernel
theorem dX10_of_111 : decode cX10_of 111 = .ok (.aload_n 0, 1) := by decide +kernel
theorem dX10_of_112 : decode cX10_of 112 = .ok (.getfield 10, 3) := by decide +kernel
theorem dX10_of_115 : decode cX10_of 115 = .ok (.iload_n 1, 1) := by decide +kernel
theorem dX10_of_116 : decode cX10_of 116 = .ok (.invokevirtual 124, 3) := by decide +kernel
theorem dX10_of_119 : decode cX10_of 119 = .ok (.ireturn, 1) := by decide +kernel
theorem dX10_of_120 : decode cX10_of 120 = .ok (.aload_n 0, 1) := by decide +kernel
theorem dX10_of_121 : decode cX10_of 121 = .ok (.getfield 50, 3) := by decide +kernel
theorem dX10_of_124 : decode cX10_of 124 = .ok (.aload_n 0, 1) := by decide +kernel
theorem dX10_of_125 : decode cX10_of 125 = .ok (.getfield 10, 3) := by decide +kernel
theorem dX10_of_128 : decode cX10_of 128 = .ok (.iload_n 1, 1) := by decide +kernel
theorem dX10_of_129 : decode cX10_of 129 = .ok (.aload_n 0, 1) := by decide +kernel
theorem dX10_of_130 : decode cX10_of 130 = .ok (.getfield 10, 3) := by decide +kernel
theorem dX10_of_133 : decode cX10_of 133 = .ok (.getfield 112, 3) := by decide +kernel
theorem dX10_of_136 : decode cX10_of 136 = .ok (.iload_n 1, 1) := by decide +kernel
theorem dX10_of_137 : decode cX10_of 137 = .ok (.iaload, 1) := by decide +kernel
theorem dX10_of_138 : decode cX10_of 138 = .ok (.aload_n 0, 1) := by decide +kernel
theorem dX10_of_139 : decode cX10_of 139 = .ok (.getfield 10, 3) := by decide +kernel
theorem dX10_of_142 : decode cX10_of 142 = .ok (.invokevirtual 128, 3) := by decide +kernel
theorem dX10_of_145 : decode cX10_of 145 = .ok (.invokevirtual 132, 3) := by decide +kernel
theorem dX10_of_148 : decode cX10_of 148 = .ok (.ifCond .eq 7, 3) := by decide +kernel
theorem dX10_of_151 : decode cX10_of 151 = .ok (.iconst 1, 1) := by decide +kernel
theorem dX10_of_152 : decode cX10_of 152 = .ok (.goto 4, 3) := by decide +kernel
theorem dX10_of_155 : decode cX10_of 155 = .ok (.iconst 0, 1) := by decide +kernel
theorem dX10_of_156 : decode cX10_of 156 = .ok (.ireturn, 1) := by decide +kernel
theorem dX10_of_157 : decode cX10_of 157 = .ok (.aload_n 0, 1) := by decide +kernel
theorem dX10_of_158 : decode cX10_of 158 = .ok (.getfield 10, 3) := by decide +kernel
theorem dX10_of_161 : decode cX10_of 161 = .ok (.iload_n 1, 1) := by decide +kernel
theorem dX10_of_162 : decode cX10_of 162 = .ok (.invokevirtual 136, 3) := by decide +kernel
theorem dX10_of_165 : decode cX10_of 165 = .ok (.ireturn, 1) := by decide +kernel
theorem dX10_of_166 : decode cX10_of 166 = .ok (.aload_n 0, 1) := by decide +kernel
theorem dX10_of_167 : decode cX10_of 167 = .ok (.getfield 10, 3) := by decide +kernel
theorem dX10_of_170 : decode cX10_of 170 = .ok (.iload_n 1, 1) := by decide +kernel
theorem dX10_of_171 : decode cX10_of 171 = .ok (.invokevirtual 121, 3) := by decide +kernel
theorem dX10_of_174 : decode cX10_of 174 = .ok (.ifCond .eq 24, 3) := by decide +kernel
theorem dX10_of_177 : decode cX10_of 177 = .ok (.aload_n 0, 1) := by decide +kernel
theorem dX10_of_178 : decode cX10_of 178 = .ok (.getfield 10, 3) := by decide +kernel
theorem dX10_of_181 : decode cX10_of 181 = .ok (.iload_n 1, 1) := by decide +kernel
theorem dX10_of_182 : decode cX10_of 182 = .ok (.invokevirtual 136, 3) := by decide +kernel
theorem dX10_of_185 : decode cX10_of 185 = .ok (.aload_n 0, 1) := by decide +kernel
theorem dX10_of_186 : decode cX10_of 186 = .ok (.getfield 10, 3) := by decide +kernel
theorem dX10_of_189 : decode cX10_of 189 = .ok (.getfield 115, 3) := by decide +kernel
theorem dX10_of_192 : decode cX10_of 192 = .ok (.iload_n 1, 1) := by decide +kernel
theorem dX10_of_193 : decode cX10_of 193 = .ok (.iaload, 1) := by decide +kernel
theorem dX10_of_194 : decode cX10_of 194 = .ok (.isub, 1) := by decide +kernel
theorem dX10_of_195 : decode cX10_of 195 = .ok (.goto 4, 3) := by decide +kernel
theorem dX10_of_198 : decode cX10_of 198 = .ok (.iconst 0, 1) := by decide +kernel
theorem dX10_of_199 : decode cX10_of 199 = .ok (.ireturn, 1) := by decide +kernel
theorem dX10_of_200 : decode cX10_of 200 = .ok (.ldc 111, 2) := by decide +kernel
theorem dX10_of_202 : decode cX10_of 202 = .ok (.ireturn, 1) := by decide +kernel
theorem dX10_ground_0 : decode cX10_ground 0 = .ok (.iload_n 1, 1) := by decide +kernel
theorem dX10_ground_1 : decode cX10_ground 1 = .ok (.iload_n 2, 1) := by decide +kernel
theorem dX10_ground_2 : decode cX10_ground 2 = .ok (.iload_n 3, 1) := by decide +kernel
theorem dX10_ground_3 : decode cX10_ground 3 = .ok (.iload 4, 2) := by decide +kernel
theorem dX10_ground_5 : decode cX10_ground 5 = .ok (.invokestatic 139, 3) := by decide +kernel
theorem dX10_ground_8 : decode cX10_ground 8 = .ok (.ifCond .ne 9, 3) := by decide +kernel
theorem dX10_ground_11 : decode cX10_ground 11 = .ok (.aload_n 0, 1) := by decide +kernel
theorem dX10_ground_12 : decode cX10_ground 12 = .ok (.iconst (-1), 1) := by decide +kernel
theorem dX10_ground_13 : decode cX10_ground 13 = .ok (.invokevirtual 90, 3) := by decide +kernel
theorem dX10_ground_16 : decode cX10_ground 16 = .ok (.ireturn, 1) := by decide +kernel
theorem dX10_ground_17 : decode cX10_ground 17 = .ok (.aload_n 0, 1) := by decide +kernel
theorem dX10_ground_18 : decode cX10_ground 18 = .ok (.getfield 10, 3) := by decide +kernel
theorem dX10_ground_21 : decode cX10_ground 21 = .ok (.getfield 143, 3) := by decide +kernel
theorem dX10_ground_24 : decode cX10_ground 24 = .ok (.iconst 4, 1) := by decide +kernel
theorem dX10_ground_25 : decode cX10_ground 25 = .ok (.if_icmp .lt 10, 3) := by decide +kernel
theorem dX10_ground_28 : decode cX10_ground 28 = .ok (.aload_n 0, 1) := by decide +kernel
theorem dX10_ground_29 : decode cX10_ground 29 = .ok (.bipush (-5), 2) := by decide +kernel
theorem dX10_ground_31 : decode cX10_ground 31 = .ok (.invokevirtual 90, 3) := by decide +kernel
theorem dX10_ground_34 : decode cX10_ground 34 = .ok (.ireturn, 1) := by decide +kernel
theorem dX10_ground_35 : decode cX10_ground 35 = .ok (.aload_n 0, 1) := by decide +kernel
theorem dX10_ground_36 : decode cX10_ground 36 = .ok (.getfield 26, 3) := by decide +kernel
theorem dX10_ground_39 : decode cX10_ground 39 = .ok (.invokevirtual 97, 3) := by decide +kernel
theorem dX10_ground_42 : decode cX10_ground 42 = .ok (.aload_n 0, 1) := by decide +kernel
theorem dX10_ground_43 : decode cX10_ground 43 = .ok (.aload_n 0, 1) := by decide +kernel
theorem dX10_ground_44 : decode cX10_ground 44 = .ok (.getfield 10, 3) := by decide +kernel
theorem dX10_ground_47 : decode cX10_ground 47 = .ok (.iload_n 1, 1) := by decide +kernel
theorem dX10_ground_48 : decode cX10_ground 48 = .ok (.iload_n 2, 1) := by decide +kernel
theorem dX10_ground_49 : decode cX10_ground 49 = .ok (.iload_n 3, 1) := by decide +kernel
theorem dX10_ground_50 : decode cX10_ground 50 = .ok (.iload 4, 2) := by decide +kernel
theorem dX10_ground_52 : decode cX10_ground 52 = .ok (.invokevirtual 146, 3) := by decide +kernel
theorem dX10_ground_55 : decode cX10_ground 55 = .ok (.invokevirtual 104, 3) := by decide +kernel
theorem dX10_ground_58 : decode cX10_ground 58 = .ok (.ireturn, 1) := by decide +kernel
theorem dX10_at_0 : decode cX10_at 0 = .ok (.aload_n 0, 1) := by decide +kernel
theorem dX10_at_1 : decode cX10_at 1 = .ok (.getfield 10, 3) := by decide +kernel
theorem dX10_at_4 : decode cX10_at 4 = .ok (.iload_n 1, 1) := by decide +kernel
theorem dX10_at_5 : decode cX10_at 5 = .ok (.invokevirtual 150, 3) := by decide +kernel
theorem dX10_at_8 : decode cX10_at 8 = .ok (.ifCond .ne 5, 3) := by decide +kernel
theorem dX10_at_11 : decode cX10_at 11 = .ok (.iconst (-1), 1) := by decide +kernel
theorem dX10_at_12 : decode cX10_at 12 = .ok (.ireturn, 1) := by decide +kernel
theorem dX10_at_13 : decode cX10_at 13 = .ok (.iload_n 2, 1) := by decide +kernel
theorem dX10_at_14 : decode cX10_at 14 = .ok (.ifCond .ne 13, 3) := by decide +kernel
theorem dX10_at_17 : decode cX10_at 17 = .ok (.aload_n 0, 1) := by decide +kernel
theorem dX10_at_18 : decode cX10_at 18 = .ok (.getfield 10, 3) := by decide +kernel
theorem dX10_at_21 : decode cX10_at 21 = .ok (.getfield 153, 3) := by decide +kernel
theorem dX10_at_24 : decode cX10_at 24 = .ok (.iload_n 1, 1) := by decide +kernel
theorem dX10_at_25 : decode cX10_at 25 = .ok (.iaload, 1) := by decide +kernel
theorem dX10_at_26 : decode cX10_at 26 = .ok (.ireturn, 1) := by decide +kernel
theorem dX10_at_27 : decode cX10_at 27 = .ok (.iload_n 2, 1) := by decide +kernel
theorem dX10_at_28 : decode cX10_at 28 = .ok (.iconst 1, 1) := by decide +kernel
theorem dX10_at_29 : decode cX10_at 29 = .ok (.if_icmp .lt 18, 3) := by decide +kernel
theorem dX10_at_32 : decode cX10_at 32 = .ok (.iload_n 2, 1) := by decide +kernel
theorem dX10_at_33 : decode cX10_at 33 = .ok (.iconst 3, 1) := by decide +kernel
theorem dX10_at_34 : decode cX10_at 34 = .ok (.if_icmp .gt 13, 3) := by decide +kernel
theorem dX10_at_37 : decode cX10_at 37 = .ok (.aload_n 0, 1) := by decide +kernel
theorem dX10_at_38 : decode cX10_at 38 = .ok (.getfield 10, 3) := by decide +kernel
theorem dX10_at_41 : decode cX10_at 41 = .ok (.iload_n 1, 1) := by decide +kernel
theorem dX10_at_42 : decode cX10_at 42 = .ok (.iload_n 2, 1) := by decide +kernel
theorem dX10_at_43 : decode cX10_at 43 = .ok (.invokevirtual 156, 3) := by decide +kernel
theorem dX10_at_46 : decode cX10_at 46 = .ok (.ireturn, 1) := by decide +kernel
theorem dX10_at_47 : decode cX10_at 47 = .ok (.iload_n 2, 1) := by decide +kernel
theorem dX10_at_48 : decode cX10_at 48 = .ok (.iconst 4, 1) := by decide +kernel
theorem dX10_at_49 : decode cX10_at 49 = .ok (.if_icmp .ne 25, 3) := by decide +kernel
theorem dX10_at_52 : decode cX10_at 52 = .ok (.aload_n 0, 1) := by decide +kernel
theorem dX10_at_53 : decode cX10_at 53 = .ok (.getfield 50, 3) := by decide +kernel
theorem dX10_at_56 : decode cX10_at 56 = .ok (.aload_n 0, 1) := by decide +kernel
theorem dX10_at_57 : decode cX10_at 57 = .ok (.getfield 10, 3) := by decide +kernel
theorem dX10_at_60 : decode cX10_at 60 = .ok (.iload_n 1, 1) := by decide +kernel
theorem dX10_at_61 : decode cX10_at 61 = .ok (.aload_n 0, 1) := by decide +kernel
theorem dX10_at_62 : decode cX10_at 62 = .ok (.getfield 10, 3) := by decide +kernel
theorem dX10_at_65 : decode cX10_at 65 = .ok (.invokevirtual 128, 3) := by decide +kernel
theorem dX10_at_68 : decode cX10_at 68 = .ok (.invokevirtual 159, 3) := by decide +kernel
theorem dX10_at_71 : decode cX10_at 71 = .ok (.goto 4, 3) := by decide +kernel
theorem dX10_at_74 : decode cX10_at 74 = .ok (.iconst (-1), 1) := by decide +kernel
theorem dX10_at_75 : decode cX10_at 75 = .ok (.ireturn, 1) := by decide +kernel
theorem dX10_price_0 : decode cX10_price 0 = .ok (.iload_n 1, 1) := by decide +kernel
theorem dX10_price_1 : decode cX10_price 1 = .ok (.ifCond .lt 19, 3) := by decide +kernel
theorem dX10_price_4 : decode cX10_price 4 = .ok (.iload_n 1, 1) := by decide +kernel
theorem dX10_price_5 : decode cX10_price 5 = .ok (.bipush 6, 2) := by decide +kernel
theorem dX10_price_7 : decode cX10_price 7 = .ok (.if_icmp .ge 13, 3) := by decide +kernel
theorem dX10_price_10 : decode cX10_price 10 = .ok (.iload_n 2, 1) := by decide +kernel
theorem dX10_price_11 : decode cX10_price 11 = .ok (.ifCond .lt 9, 3) := by decide +kernel
theorem dX10_price_14 : decode cX10_price 14 = .ok (.iload_n 2, 1) := by decide +kernel
theorem dX10_price_15 : decode cX10_price 15 = .ok (.bipush 99, 2) := by decide +kernel
theorem dX10_price_17 : decode cX10_price 17 = .ok (.if_icmp .le 9, 3) := by decide +kernel
theorem dX10_price_20 : decode cX10_price 20 = .ok (.aload_n 0, 1) := by decide +kernel
theorem dX10_price_21 : decode cX10_price 21 = .ok (.iconst (-1), 1) := by decide +kernel
theorem dX10_price_22 : decode cX10_price 22 = .ok (.invokevirtual 90, 3) := by decide +kernel
theorem dX10_price_25 : decode cX10_price 25 = .ok (.ireturn, 1) := by decide +kernel
theorem dX10_price_26 : decode cX10_price 26 = .ok (.aload_n 0, 1) := by decide +kernel
theorem dX10_price_27 : decode cX10_price 27 = .ok (.getfield 10, 3) := by decide +kernel
theorem dX10_price_30 : decode cX10_price 30 = .ok (.getfield 163, 3) := by decide +kernel
theorem dX10_price_33 : decode cX10_price 33 = .ok (.iload_n 1, 1) := by decide +kernel
theorem dX10_price_34 : decode cX10_price 34 = .ok (.iaload, 1) := by decide +kernel
theorem dX10_price_35 : decode cX10_price 35 = .ok (.istore_n 3, 1) := by decide +kernel
theorem dX10_price_36 : decode cX10_price 36 = .ok (.aload_n 0, 1) := by decide +kernel
theorem dX10_price_37 : decode cX10_price 37 = .ok (.getfield 10, 3) := by decide +kernel
theorem dX10_price_40 : decode cX10_price 40 = .ok (.getfield 163, 3) := by decide +kernel
theorem dX10_price_43 : decode cX10_price 43 = .ok (.iload_n 1, 1) := by decide +kernel
theorem dX10_price_44 : decode cX10_price 44 = .ok (.iload_n 2, 1) := by decide +kernel
theorem dX10_price_45 : decode cX10_price 45 = .ok (.iastore, 1) := by decide +kernel
theorem dX10_price_46 : decode cX10_price 46 = .ok (.aload_n 0, 1) := by decide +kernel
theorem dX10_price_47 : decode cX10_price 47 = .ok (.iload_n 3, 1) := by decide +kernel
theorem dX10_price_48 : decode cX10_price 48 = .ok (.invokevirtual 104, 3) := by decide +kernel
theorem dX10_price_51 : decode cX10_price 51 = .ok (.ireturn, 1) := by decide +kernel
theorem dX10_terms_0 : decode cX10_terms 0 = .ok (.aload_n 0, 1) := by decide +kernel
theorem dX10_terms_1 : decode cX10_terms 1 = .ok (.iload_n 1, 1) := by decide +kernel
theorem dX10_terms_2 : decode cX10_terms 2 = .ok (.iload_n 2, 1) := by decide +kernel
theorem dX10_terms_3 : decode cX10_terms 3 = .ok (.invokevirtual 166, 3) := by decide +kernel
theorem dX10_terms_6 : decode cX10_terms 6 = .ok (.ifCond .ne 9, 3) := by decide +kernel
theorem dX10_terms_9 : decode cX10_terms 9 = .ok (.aload_n 0, 1) := by decide +kernel
theorem dX10_terms_10 : decode cX10_terms 10 = .ok (.iconst (-1), 1) := by decide +kernel
theorem dX10_terms_11 : decode cX10_terms 11 = .ok (.invokevirtual 90, 3) := by decide +kernel
theorem dX10_terms_14 : decode cX10_terms 14 = .ok (.ireturn, 1) := by decide +kernel
theorem dX10_terms_15 : decode cX10_terms 15 = .ok (.aload_n 0, 1) := by decide +kernel
theorem dX10_terms_16 : decode cX10_terms 16 = .ok (.getfield 26, 3) := by decide +kernel
theorem dX10_terms_19 : decode cX10_terms 19 = .ok (.invokevirtual 97, 3) := by decide +kernel
theorem dX10_terms_22 : decode cX10_terms 22 = .ok (.aload_n 0, 1) := by decide +kernel
theorem dX10_terms_23 : decode cX10_terms 23 = .ok (.getfield 10, 3) := by decide +kernel
theorem dX10_terms_26 : decode cX10_terms 26 = .ok (.getfield 170, 3) := by decide +kernel
theorem dX10_terms_29 : decode cX10_terms 29 = .ok (.iload_n 1, 1) := by decide +kernel
theorem dX10_terms_30 : decode cX10_terms 30 = .ok (.iaload, 1) := by decide +kernel
theorem dX10_terms_31 : decode cX10_terms 31 = .ok (.istore_n 3, 1) := by decide +kernel
theorem dX10_terms_32 : decode cX10_terms 32 = .ok (.aload_n 0, 1) := by decide +kernel
theorem dX10_terms_33 : decode cX10_terms 33 = .ok (.getfield 10, 3) := by decide +kernel
theorem dX10_terms_36 : decode cX10_terms 36 = .ok (.getfield 170, 3) := by decide +kernel
theorem dX10_terms_39 : decode cX10_terms 39 = .ok (.iload_n 1, 1) := by decide +kernel
theorem dX10_terms_40 : decode cX10_terms 40 = .ok (.iload_n 2, 1) := by decide +kernel
theorem dX10_terms_41 : decode cX10_terms 41 = .ok (.iastore, 1) := by decide +kernel
theorem dX10_terms_42 : decode cX10_terms 42 = .ok (.aload_n 0, 1) := by decide +kernel
theorem dX10_terms_43 : decode cX10_terms 43 = .ok (.iload_n 3, 1) := by decide +kernel
theorem dX10_terms_44 : decode cX10_terms 44 = .ok (.invokevirtual 104, 3) := by decide +kernel
theorem dX10_terms_47 : decode cX10_terms 47 = .ok (.ireturn, 1) := by decide +kernel
theorem dX10_feed_0 : decode cX10_feed 0 = .ok (.aload_n 0, 1) := by decide +kernel
theorem dX10_feed_1 : decode cX10_feed 1 = .ok (.getfield 36, 3) := by decide +kernel
theorem dX10_feed_4 : decode cX10_feed 4 = .ok (.getfield 173, 3) := by decide +kernel
theorem dX10_feed_7 : decode cX10_feed 7 = .ok (.bipush 20, 2) := by decide +kernel
theorem dX10_feed_9 : decode cX10_feed 9 = .ok (.iadd, 1) := by decide +kernel
theorem dX10_feed_10 : decode cX10_feed 10 = .ok (.sipush 400, 3) := by decide +kernel
theorem dX10_feed_13 : decode cX10_feed 13 = .ok (.if_icmp .le 5, 3) := by decide +kernel
theorem dX10_feed_16 : decode cX10_feed 16 = .ok (.iconst (-1), 1) := by decide +kernel
theorem dX10_feed_17 : decode cX10_feed 17 = .ok (.ireturn, 1) := by decide +kernel
theorem dX10_feed_18 : decode cX10_feed 18 = .ok (.aload_n 0, 1) := by decide +kernel
theorem dX10_feed_19 : decode cX10_feed 19 = .ok (.getfield 36, 3) := by decide +kernel
theorem dX10_feed_22 : decode cX10_feed 22 = .ok (.iload_n 1, 1) := by decide +kernel
theorem dX10_feed_23 : decode cX10_feed 23 = .ok (.invokevirtual 176, 3) := by decide +kernel
theorem dX10_feed_26 : decode cX10_feed 26 = .ok (.aload_n 0, 1) := by decide +kernel
theorem dX10_feed_27 : decode cX10_feed 27 = .ok (.getfield 36, 3) := by decide +kernel
theorem dX10_feed_30 : decode cX10_feed 30 = .ok (.iload_n 2, 1) := by decide +kernel
theorem dX10_feed_31 : decode cX10_feed 31 = .ok (.invokevirtual 176, 3) := by decide +kernel
theorem dX10_feed_34 : decode cX10_feed 34 = .ok (.aload_n 0, 1) := by decide +kernel
theorem dX10_feed_35 : decode cX10_feed 35 = .ok (.getfield 36, 3) := by decide +kernel
theorem dX10_feed_38 : decode cX10_feed 38 = .ok (.iload_n 3, 1) := by decide +kernel
theorem dX10_feed_39 : decode cX10_feed 39 = .ok (.invokevirtual 176, 3) := by decide +kernel
theorem dX10_feed_42 : decode cX10_feed 42 = .ok (.aload_n 0, 1) := by decide +kernel
theorem dX10_feed_43 : decode cX10_feed 43 = .ok (.getfield 36, 3) := by decide +kernel
theorem dX10_feed_46 : decode cX10_feed 46 = .ok (.iload 4, 2) := by decide +kernel
theorem dX10_feed_48 : decode cX10_feed 48 = .ok (.invokevirtual 176, 3) := by decide +kernel
theorem dX10_feed_51 : decode cX10_feed 51 = .ok (.aload_n 0, 1) := by decide +kernel
theorem dX10_feed_52 : decode cX10_feed 52 = .ok (.getfield 36, 3) := by decide +kernel
theorem dX10_feed_55 : decode cX10_feed 55 = .ok (.iload 5, 2) := by decide +kernel
theorem dX10_feed_57 : decode cX10_feed 57 = .ok (.invokevirtual 176, 3) := by decide +kernel
theorem dX10_feed_60 : decode cX10_feed 60 = .ok (.aload_n 0, 1) := by decide +kernel
theorem dX10_feed_61 : decode cX10_feed 61 = .ok (.getfield 36, 3) := by decide +kernel
theorem dX10_feed_64 : decode cX10_feed 64 = .ok (.getfield 173, 3) := by decide +kernel
theorem dX10_feed_67 : decode cX10_feed 67 = .ok (.ireturn, 1) := by decide +kernel
theorem dX10_end_0 : decode cX10_end 0 = .ok (.iload_n 1, 1) := by decide +kernel
theorem dX10_end_1 : decode cX10_end 1 = .ok (.ifCond .lt 14, 3) := by decide +kernel
theorem dX10_end_4 : decode cX10_end 4 = .ok (.iload_n 1, 1) := by decide +kernel
theorem dX10_end_5 : decode cX10_end 5 = .ok (.aload_n 0, 1) := by decide +kernel
theorem dX10_end_6 : decode cX10_end 6 = .ok (.getfield 36, 3) := by decide +kernel
theorem dX10_end_9 : decode cX10_end 9 = .ok (.getfield 173, 3) := by decide +kernel
theorem dX10_end_12 : decode cX10_end 12 = .ok (.if_icmp .le 5, 3) := by decide +kernel
theorem dX10_end_15 : decode cX10_end 15 = .ok (.iconst (-1), 1) := by decide +kernel
theorem dX10_end_16 : decode cX10_end 16 = .ok (.ireturn, 1) := by decide +kernel
theorem dX10_end_17 : decode cX10_end 17 = .ok (.aload_n 0, 1) := by decide +kernel
theorem dX10_end_18 : decode cX10_end 18 = .ok (.getfield 36, 3) := by decide +kernel
theorem dX10_end_21 : decode cX10_end 21 = .ok (.iload_n 1, 1) := by decide +kernel
theorem dX10_end_22 : decode cX10_end 22 = .ok (.putfield 173, 3) := by decide +kernel
theorem dX10_end_25 : decode cX10_end 25 = .ok (.iload_n 1, 1) := by decide +kernel
theorem dX10_end_26 : decode cX10_end 26 = .ok (.ireturn, 1) := by decide +kernel
theorem dX10_row_0 : decode cX10_row 0 = .ok (.aload_n 0, 1) := by decide +kernel
theorem dX10_row_1 : decode cX10_row 1 = .ok (.getfield 36, 3) := by decide +kernel
theorem dX10_row_4 : decode cX10_row 4 = .ok (.invokevirtual 180, 3) := by decide +kernel
theorem dX10_row_7 : decode cX10_row 7 = .ok (.istore_n 1, 1) := by decide +kernel
theorem dX10_row_8 : decode cX10_row 8 = .ok (.iload_n 1, 1) := by decide +kernel
theorem dX10_row_9 : decode cX10_row 9 = .ok (.ifCond .ne 10, 3) := by decide +kernel
theorem dX10_row_12 : decode cX10_row 12 = .ok (.aload_n 0, 1) := by decide +kernel
theorem dX10_row_13 : decode cX10_row 13 = .ok (.bipush (-6), 2) := by decide +kernel
theorem dX10_row_15 : decode cX10_row 15 = .ok (.invokevirtual 90, 3) := by decide +kernel
theorem dX10_row_18 : decode cX10_row 18 = .ok (.ireturn, 1) := by decide +kernel
theorem dX10_row_19 : decode cX10_row 19 = .ok (.iconst 0, 1) := by decide +kernel
theorem dX10_row_20 : decode cX10_row 20 = .ok (.istore_n 2, 1) := by decide +kernel
theorem dX10_row_21 : decode cX10_row 21 = .ok (.aload_n 0, 1) := by decide +kernel
theorem dX10_row_22 : decode cX10_row 22 = .ok (.iconst 0, 1) := by decide +kernel
theorem dX10_row_23 : decode cX10_row 23 = .ok (.putfield 183, 3) := by decide +kernel
theorem dX10_row_26 : decode cX10_row 26 = .ok (.iconst 0, 1) := by decide +kernel
theorem dX10_row_27 : decode cX10_row 27 = .ok (.istore_n 3, 1) := by decide +kernel
theorem dX10_row_28 : decode cX10_row 28 = .ok (.iload_n 3, 1) := by decide +kernel
theorem dX10_row_29 : decode cX10_row 29 = .ok (.iload_n 1, 1) := by decide +kernel
theorem dX10_row_30 : decode cX10_row 30 = .ok (.if_icmp .ge 40, 3) := by decide +kernel
theorem dX10_row_33 : decode cX10_row 33 = .ok (.iload_n 3, 1) := by decide +kernel
theorem dX10_row_34 : decode cX10_row 34 = .ok (.iconst 4, 1) := by decide +kernel
theorem dX10_row_35 : decode cX10_row 35 = .ok (.iadd, 1) := by decide +kernel
theorem dX10_row_36 : decode cX10_row 36 = .ok (.iload_n 1, 1) := by decide +kernel
theorem dX10_row_37 : decode cX10_row 37 = .ok (.if_icmp .gt 17, 3) := by decide +kernel
theorem dX10_row_40 : decode cX10_row 40 = .ok (.aload_n 0, 1) := by decide +kernel
theorem dX10_row_41 : decode cX10_row 41 = .ok (.iload_n 3, 1) := by decide +kernel
theorem dX10_row_42 : decode cX10_row 42 = .ok (.invokevirtual 186, 3) := by decide +kernel
theorem dX10_row_45 : decode cX10_row 45 = .ok (.ifCond .eq 9, 3) := by decide +kernel
theorem dX10_row_48 : decode cX10_row 48 = .ok (.iinc 2 1, 3) := by decide +kernel
theorem dX10_row_51 : decode cX10_row 51 = .ok (.goto 13, 3) := by decide +kernel
theorem dX10_row_54 : decode cX10_row 54 = .ok (.aload_n 0, 1) := by decide +kernel
theorem dX10_row_55 : decode cX10_row 55 = .ok (.dup, 1) := by decide +kernel
theorem dX10_row_56 : decode cX10_row 56 = .ok (.getfield 183, 3) := by decide +kernel
theorem dX10_row_59 : decode cX10_row 59 = .ok (.iconst 1, 1) := by decide +kernel
theorem dX10_row_60 : decode cX10_row 60 = .ok (.iadd, 1) := by decide +kernel
theorem dX10_row_61 : decode cX10_row 61 = .ok (.putfield 183, 3) := by decide +kernel
theorem dX10_row_64 : decode cX10_row 64 = .ok (.iinc 3 4, 3) := by decide +kernel
theorem dX10_row_67 : decode cX10_row 67 = .ok (.goto (-39), 3) := by decide +kernel
theorem dX10_row_70 : decode cX10_row 70 = .ok (.aload_n 0, 1) := by decide +kernel
theorem dX10_row_71 : decode cX10_row 71 = .ok (.getfield 26, 3) := by decide +kernel
theorem dX10_row_74 : decode cX10_row 74 = .ok (.invokevirtual 97, 3) := by decide +kernel
theorem dX10_row_77 : decode cX10_row 77 = .ok (.aload_n 0, 1) := by decide +kernel
theorem dX10_row_78 : decode cX10_row 78 = .ok (.iload_n 2, 1) := by decide +kernel
theorem dX10_row_79 : decode cX10_row 79 = .ok (.invokevirtual 104, 3) := by decide +kernel
theorem dX10_row_82 : decode cX10_row 82 = .ok (.ireturn, 1) := by decide +kernel
theorem dX10_spray_0 : decode cX10_spray 0 = .ok (.aload_n 0, 1) := by decide +kernel
theorem dX10_spray_1 : decode cX10_spray 1 = .ok (.getfield 183, 3) := by decide +kernel
theorem dX10_spray_4 : decode cX10_spray 4 = .ok (.ireturn, 1) := by decide +kernel
theorem dX10_law_0 : decode cX10_law 0 = .ok (.aload_n 0, 1) := by decide +kernel
theorem dX10_law_1 : decode cX10_law 1 = .ok (.getfield 36, 3) := by decide +kernel
theorem dX10_law_4 : decode cX10_law 4 = .ok (.invokevirtual 180, 3) := by decide +kernel
theorem dX10_law_7 : decode cX10_law 7 = .ok (.istore_n 1, 1) := by decide +kernel
theorem dX10_law_8 : decode cX10_law 8 = .ok (.aload_n 0, 1) := by decide +kernel
theorem dX10_law_9 : decode cX10_law 9 = .ok (.getfield 10, 3) := by decide +kernel
theorem dX10_law_12 : decode cX10_law 12 = .ok (.getfield 189, 3) := by decide +kernel
theorem dX10_law_15 : decode cX10_law 15 = .ok (.bipush 6, 2) := by decide +kernel
theorem dX10_law_17 : decode cX10_law 17 = .ok (.if_icmp .lt 10, 3) := by decide +kernel
theorem dX10_law_20 : decode cX10_law 20 = .ok (.aload_n 0, 1) := by decide +kernel
theorem dX10_law_21 : decode cX10_law 21 = .ok (.bipush (-5), 2) := by decide +kernel
theorem dX10_law_23 : decode cX10_law 23 = .ok (.invokevirtual 90, 3) := by decide +kernel
theorem dX10_law_26 : decode cX10_law 26 = .ok (.ireturn, 1) := by decide +kernel
theorem dX10_law_27 : decode cX10_law 27 = .ok (.aload_n 0, 1) := by decide +kernel
theorem dX10_law_28 : decode cX10_law 28 = .ok (.aload_n 0, 1) := by decide +kernel
theorem dX10_law_29 : decode cX10_law 29 = .ok (.getfield 43, 3) := by decide +kernel
theorem dX10_law_32 : decode cX10_law 32 = .ok (.aload_n 0, 1) := by decide +kernel
theorem dX10_law_33 : decode cX10_law 33 = .ok (.getfield 36, 3) := by decide +kernel
theorem dX10_law_36 : decode cX10_law 36 = .ok (.iload_n 1, 1) := by decide +kernel
theorem dX10_law_37 : decode cX10_law 37 = .ok (.iconst 1, 1) := by decide +kernel
theorem dX10_law_38 : decode cX10_law 38 = .ok (.invokevirtual 192, 3) := by decide +kernel
theorem dX10_law_41 : decode cX10_law 41 = .ok (.putfield 79, 3) := by decide +kernel
theorem dX10_law_44 : decode cX10_law 44 = .ok (.aload_n 0, 1) := by decide +kernel
theorem dX10_law_45 : decode cX10_law 45 = .ok (.getfield 79, 3) := by decide +kernel
theorem dX10_law_48 : decode cX10_law 48 = .ok (.iconst (-1), 1) := by decide +kernel
theorem dX10_law_49 : decode cX10_law 49 = .ok (.if_icmp .eq 10, 3) := by decide +kernel
theorem dX10_law_52 : decode cX10_law 52 = .ok (.aload_n 0, 1) := by decide +kernel
theorem dX10_law_53 : decode cX10_law 53 = .ok (.bipush (-6), 2) := by decide +kernel
theorem dX10_law_55 : decode cX10_law 55 = .ok (.invokevirtual 90, 3) := by decide +kernel
theorem dX10_law_58 : decode cX10_law 58 = .ok (.ireturn, 1) := by decide +kernel
theorem dX10_law_59 : decode cX10_law 59 = .ok (.aload_n 0, 1) := by decide +kernel
theorem dX10_law_60 : decode cX10_law 60 = .ok (.aload_n 0, 1) := by decide +kernel
theorem dX10_law_61 : decode cX10_law 61 = .ok (.getfield 10, 3) := by decide +kernel
theorem dX10_law_64 : decode cX10_law 64 = .ok (.aload_n 0, 1) := by decide +kernel
theorem dX10_law_65 : decode cX10_law 65 = .ok (.getfield 43, 3) := by decide +kernel
theorem dX10_law_68 : decode cX10_law 68 = .ok (.getfield 196, 3) := by decide +kernel
theorem dX10_law_71 : decode cX10_law 71 = .ok (.invokevirtual 200, 3) := by decide +kernel
theorem dX10_law_74 : decode cX10_law 74 = .ok (.invokevirtual 206, 3) := by decide +kernel
theorem dX10_law_77 : decode cX10_law 77 = .ok (.invokevirtual 104, 3) := by decide +kernel
theorem dX10_law_80 : decode cX10_law 80 = .ok (.ireturn, 1) := by decide +kernel
theorem dX10_orders_0 : decode cX10_orders 0 = .ok (.aload_n 0, 1) := by decide +kernel
theorem dX10_orders_1 : decode cX10_orders 1 = .ok (.iconst (-1), 1) := by decide +kernel
theorem dX10_orders_2 : decode cX10_orders 2 = .ok (.putfield 83, 3) := by decide +kernel
theorem dX10_orders_5 : decode cX10_orders 5 = .ok (.aload_n 0, 1) := by decide +kernel
theorem dX10_orders_6 : decode cX10_orders 6 = .ok (.aload_n 0, 1) := by decide +kernel
theorem dX10_orders_7 : decode cX10_orders 7 = .ok (.getfield 43, 3) := by decide +kernel
theorem dX10_orders_10 : decode cX10_orders 10 = .ok (.aload_n 0, 1) := by decide +kernel
theorem dX10_orders_11 : decode cX10_orders 11 = .ok (.getfield 36, 3) := by decide +kernel
theorem dX10_orders_14 : decode cX10_orders 14 = .ok (.aload_n 0, 1) := by decide +kernel
theorem dX10_orders_15 : decode cX10_orders 15 = .ok (.getfield 36, 3) := by decide +kernel
theorem dX10_orders_18 : decode cX10_orders 18 = .ok (.invokevirtual 180, 3) := by decide +kernel
theorem dX10_orders_21 : decode cX10_orders 21 = .ok (.iconst 0, 1) := by decide +kernel
theorem dX10_orders_22 : decode cX10_orders 22 = .ok (.invokevirtual 192, 3) := by decide +kernel
theorem dX10_orders_25 : decode cX10_orders 25 = .ok (.putfield 79, 3) := by decide +kernel
theorem dX10_orders_28 : decode cX10_orders 28 = .ok (.aload_n 0, 1) := by decide +kernel
theorem dX10_orders_29 : decode cX10_orders 29 = .ok (.getfield 79, 3) := by decide +kernel
theorem dX10_orders_32 : decode cX10_orders 32 = .ok (.iconst (-1), 1) := by decide +kernel
theorem dX10_orders_33 : decode cX10_orders 33 = .ok (.if_icmp .eq 10, 3) := by decide +kernel
theorem dX10_orders_36 : decode cX10_orders 36 = .ok (.aload_n 0, 1) := by decide +kernel
theorem dX10_orders_37 : decode cX10_orders 37 = .ok (.bipush (-6), 2) := by decide +kernel
theorem dX10_orders_39 : decode cX10_orders 39 = .ok (.invokevirtual 90, 3) := by decide +kernel
theorem dX10_orders_42 : decode cX10_orders 42 = .ok (.ireturn, 1) := by decide +kernel
theorem dX10_orders_43 : decode cX10_orders 43 = .ok (.aload_n 0, 1) := by decide +kernel
theorem dX10_orders_44 : decode cX10_orders 44 = .ok (.getfield 16, 3) := by decide +kernel
theorem dX10_orders_47 : decode cX10_orders 47 = .ok (.aload_n 0, 1) := by decide +kernel
theorem dX10_orders_48 : decode cX10_orders 48 = .ok (.getfield 10, 3) := by decide +kernel
theorem dX10_orders_51 : decode cX10_orders 51 = .ok (.invokevirtual 210, 3) := by decide +kernel
theorem dX10_orders_54 : decode cX10_orders 54 = .ok (.aload_n 0, 1) := by decide +kernel
theorem dX10_orders_55 : decode cX10_orders 55 = .ok (.getfield 30, 3) := by decide +kernel
theorem dX10_orders_58 : decode cX10_orders 58 = .ok (.aload_n 0, 1) := by decide +kernel
theorem dX10_orders_59 : decode cX10_orders 59 = .ok (.getfield 26, 3) := by decide +kernel
theorem dX10_orders_62 : decode cX10_orders 62 = .ok (.invokevirtual 214, 3) := by decide +kernel
theorem dX10_orders_65 : decode cX10_orders 65 = .ok (.aload_n 0, 1) := by decide +kernel
theorem dX10_orders_66 : decode cX10_orders 66 = .ok (.getfield 68, 3) := by decide +kernel
theorem dX10_orders_69 : decode cX10_orders 69 = .ok (.aload_n 0, 1) := by decide +kernel
theorem dX10_orders_70 : decode cX10_orders 70 = .ok (.getfield 43, 3) := by decide +kernel
theorem dX10_orders_73 : decode cX10_orders 73 = .ok (.getfield 196, 3) := by decide +kernel
theorem dX10_orders_76 : decode cX10_orders 76 = .ok (.aload_n 0, 1) := by decide +kernel
theorem dX10_orders_77 : decode cX10_orders 77 = .ok (.getfield 10, 3) := by decide +kernel
theorem dX10_orders_80 : decode cX10_orders 80 = .ok (.aload_n 0, 1) := by decide +kernel
theorem dX10_orders_81 : decode cX10_orders 81 = .ok (.getfield 26, 3) := by decide +kernel
theorem dX10_orders_84 : decode cX10_orders 84 = .ok (.invokevirtual 217, 3) := by decide +kernel
theorem dX10_orders_87 : decode cX10_orders 87 = .ok (.istore_n 1, 1) := by decide +kernel
theorem dX10_orders_88 : decode cX10_orders 88 = .ok (.iload_n 1, 1) := by decide +kernel
theorem dX10_orders_89 : decode cX10_orders 89 = .ok (.ifCond .ge 43, 3) := by decide +kernel
theorem dX10_orders_92 : decode cX10_orders 92 = .ok (.aload_n 0, 1) := by decide +kernel
theorem dX10_orders_93 : decode cX10_orders 93 = .ok (.aload_n 0, 1) := by decide +kernel
theorem dX10_orders_94 : decode cX10_orders 94 = .ok (.getfield 68, 3) := by decide +kernel
theorem dX10_orders_97 : decode cX10_orders 97 = .ok (.getfield 221, 3) := by decide +kernel
theorem dX10_orders_100 : decode cX10_orders 100 = .ok (.putfield 83, 3) := by decide +kernel
theorem dX10_orders_103 : decode cX10_orders 103 = .ok (.aload_n 0, 1) := by decide +kernel
theorem dX10_orders_104 : decode cX10_orders 104 = .ok (.getfield 10, 3) := by decide +kernel
theorem dX10_orders_107 : decode cX10_orders 107 = .ok (.aload_n 0, 1) := by decide +kernel
theorem dX10_orders_108 : decode cX10_orders 108 = .ok (.getfield 16, 3) := by decide +kernel
theorem dX10_orders_111 : decode cX10_orders 111 = .ok (.invokevirtual 210, 3) := by decide +kernel
theorem dX10_orders_114 : decode cX10_orders 114 = .ok (.aload_n 0, 1) := by decide +kernel
theorem dX10_orders_115 : decode cX10_orders 115 = .ok (.getfield 26, 3) := by decide +kernel
theorem dX10_orders_118 : decode cX10_orders 118 = .ok (.aload_n 0, 1) := by decide +kernel
theorem dX10_orders_119 : decode cX10_orders 119 = .ok (.getfield 30, 3) := by decide +kernel
theorem dX10_orders_122 : decode cX10_orders 122 = .ok (.invokevirtual 214, 3) := by decide +kernel
theorem dX10_orders_125 : decode cX10_orders 125 = .ok (.aload_n 0, 1) := by decide +kernel
theorem dX10_orders_126 : decode cX10_orders 126 = .ok (.bipush (-3), 2) := by decide +kernel
theorem dX10_orders_128 : decode cX10_orders 128 = .ok (.invokevirtual 90, 3) := by decide +kernel
theorem dX10_orders_131 : decode cX10_orders 131 = .ok (.ireturn, 1) := by decide +kernel
theorem dX10_orders_132 : decode cX10_orders 132 = .ok (.aload_n 0, 1) := by decide +kernel
theorem dX10_orders_133 : decode cX10_orders 133 = .ok (.iload_n 1, 1) := by decide +kernel
theorem dX10_orders_134 : decode cX10_orders 134 = .ok (.invokevirtual 104, 3) := by decide +kernel
theorem dX10_orders_137 : decode cX10_orders 137 = .ok (.ireturn, 1) := by decide +kernel
theorem dX10_fault_0 : decode cX10_fault 0 = .ok (.aload_n 0, 1) := by decide +kernel
theorem dX10_fault_1 : decode cX10_fault 1 = .ok (.getfield 79, 3) := by decide +kernel
theorem dX10_fault_4 : decode cX10_fault 4 = .ok (.ireturn, 1) := by decide +kernel
theorem dX10_stopped_0 : decode cX10_stopped 0 = .ok (.aload_n 0, 1) := by decide +kernel
theorem dX10_stopped_1 : decode cX10_stopped 1 = .ok (.getfield 83, 3) := by decide +kernel
theorem dX10_stopped_4 : decode cX10_stopped 4 = .ok (.ireturn, 1) := by decide +kernel
theorem dX10_force_0 : decode cX10_force 0 = .ok (.iload_n 1, 1) := by decide +kernel
theorem dX10_force_1 : decode cX10_force 1 = .ok (.iconst (-1), 1) := by decide +kernel
theorem dX10_force_2 : decode cX10_force 2 = .ok (.if_icmp .eq 25, 3) := by decide +kernel
theorem dX10_force_5 : decode cX10_force 5 = .ok (.iload_n 1, 1) := by decide +kernel
theorem dX10_force_6 : decode cX10_force 6 = .ok (.ifCond .lt 14, 3) := by decide +kernel
theorem dX10_force_9 : decode cX10_force 9 = .ok (.iload_n 1, 1) := by decide +kernel
theorem dX10_force_10 : decode cX10_force 10 = .ok (.aload_n 0, 1) := by decide +kernel
theorem dX10_force_11 : decode cX10_force 11 = .ok (.getfield 10, 3) := by decide +kernel
theorem dX10_force_14 : decode cX10_force 14 = .ok (.getfield 189, 3) := by decide +kernel
theorem dX10_force_17 : decode cX10_force 17 = .ok (.if_icmp .lt 10, 3) := by decide +kernel
theorem dX10_force_20 : decode cX10_force 20 = .ok (.aload_n 0, 1) := by decide +kernel
theorem dX10_force_21 : decode cX10_force 21 = .ok (.bipush (-2), 2) := by decide +kernel
theorem dX10_force_23 : decode cX10_force 23 = .ok (.invokevirtual 90, 3) := by decide +kernel
theorem dX10_force_26 : decode cX10_force 26 = .ok (.ireturn, 1) := by decide +kernel
theorem dX10_force_27 : decode cX10_force 27 = .ok (.aload_n 0, 1) := by decide +kernel
theorem dX10_force_28 : decode cX10_force 28 = .ok (.getfield 10, 3) := by decide +kernel
theorem dX10_force_31 : decode cX10_force 31 = .ok (.getfield 222, 3) := by decide +kernel
theorem dX10_force_34 : decode cX10_force 34 = .ok (.istore_n 2, 1) := by decide +kernel
theorem dX10_force_35 : decode cX10_force 35 = .ok (.aload_n 0, 1) := by decide +kernel
theorem dX10_force_36 : decode cX10_force 36 = .ok (.getfield 10, 3) := by decide +kernel
theorem dX10_force_39 : decode cX10_force 39 = .ok (.iload_n 1, 1) := by decide +kernel
theorem dX10_force_40 : decode cX10_force 40 = .ok (.putfield 222, 3) := by decide +kernel
theorem dX10_force_43 : decode cX10_force 43 = .ok (.aload_n 0, 1) := by decide +kernel
theorem dX10_force_44 : decode cX10_force 44 = .ok (.iload_n 2, 1) := by decide +kernel
theorem dX10_force_45 : decode cX10_force 45 = .ok (.invokevirtual 104, 3) := by decide +kernel
theorem dX10_force_48 : decode cX10_force 48 = .ok (.ireturn, 1) := by decide +kernel
theorem dX10_hunt_0 : decode cX10_hunt 0 = .ok (.aload_n 0, 1) := by decide +kernel
theorem dX10_hunt_1 : decode cX10_hunt 1 = .ok (.aload_n 0, 1) := by decide +kernel
theorem dX10_hunt_2 : decode cX10_hunt 2 = .ok (.getfield 59, 3) := by decide +kernel
theorem dX10_hunt_5 : decode cX10_hunt 5 = .ok (.aload_n 0, 1) := by decide +kernel
theorem dX10_hunt_6 : decode cX10_hunt 6 = .ok (.getfield 10, 3) := by decide +kernel
theorem dX10_hunt_9 : decode cX10_hunt 9 = .ok (.aload_n 0, 1) := by decide +kernel
theorem dX10_hunt_10 : decode cX10_hunt 10 = .ok (.getfield 26, 3) := by decide +kernel
theorem dX10_hunt_13 : decode cX10_hunt 13 = .ok (.bipush 16, 2) := by decide +kernel
theorem dX10_hunt_15 : decode cX10_hunt 15 = .ok (.iload_n 1, 1) := by decide +kernel
theorem dX10_hunt_16 : decode cX10_hunt 16 = .ok (.iload_n 2, 1) := by decide +kernel
theorem dX10_hunt_17 : decode cX10_hunt 17 = .ok (.invokevirtual 225, 3) := by decide +kernel
theorem dX10_hunt_20 : decode cX10_hunt 20 = .ok (.invokevirtual 229, 3) := by decide +kernel
theorem dX10_hunt_23 : decode cX10_hunt 23 = .ok (.ireturn, 1) := by decide +kernel
theorem dX10_sell_0 : decode cX10_sell 0 = .ok (.aload_n 0, 1) := by decide +kernel
theorem dX10_sell_1 : decode cX10_sell 1 = .ok (.aload_n 0, 1) := by decide +kernel
theorem dX10_sell_2 : decode cX10_sell 2 = .ok (.getfield 59, 3) := by decide +kernel
theorem dX10_sell_5 : decode cX10_sell 5 = .ok (.aload_n 0, 1) := by decide +kernel
theorem dX10_sell_6 : decode cX10_sell 6 = .ok (.getfield 10, 3) := by decide +kernel
theorem dX10_sell_9 : decode cX10_sell 9 = .ok (.aload_n 0, 1) := by decide +kernel
theorem dX10_sell_10 : decode cX10_sell 10 = .ok (.getfield 26, 3) := by decide +kernel
theorem dX10_sell_13 : decode cX10_sell 13 = .ok (.bipush 17, 2) := by decide +kernel
theorem dX10_sell_15 : decode cX10_sell 15 = .ok (.iload_n 1, 1) := by decide +kernel
theorem dX10_sell_16 : decode cX10_sell 16 = .ok (.iconst 0, 1) := by decide +kernel
theorem dX10_sell_17 : decode cX10_sell 17 = .ok (.invokevirtual 225, 3) := by decide +kernel
theorem dX10_sell_20 : decode cX10_sell 20 = .ok (.invokevirtual 229, 3) := by decide +kernel
theorem dX10_sell_23 : decode cX10_sell 23 = .ok (.ireturn, 1) := by decide +kernel
theorem dX10_advance_0 : decode cX10_advance 0 = .ok (.aload_n 0, 1) := by decide +kernel
theorem dX10_advance_1 : decode cX10_advance 1 = .ok (.aload_n 0, 1) := by decide +kernel
theorem dX10_advance_2 : decode cX10_advance 2 = .ok (.getfield 59, 3) := by decide +kernel
theorem dX10_advance_5 : decode cX10_advance 5 = .ok (.aload_n 0, 1) := by decide +kernel
theorem dX10_advance_6 : decode cX10_advance 6 = .ok (.getfield 10, 3) := by decide +kernel
theorem dX10_advance_9 : decode cX10_advance 9 = .ok (.aload_n 0, 1) := by decide +kernel
theorem dX10_advance_10 : decode cX10_advance 10 = .ok (.getfield 26, 3) := by decide +kernel
theorem dX10_advance_13 : decode cX10_advance 13 = .ok (.bipush 18, 2) := by decide +kernel
theorem dX10_advance_15 : decode cX10_advance 15 = .ok (.iload_n 1, 1) := by decide +kernel
theorem dX10_advance_16 : decode cX10_advance 16 = .ok (.iload_n 2, 1) := by decide +kernel
theorem dX10_advance_17 : decode cX10_advance 17 = .ok (.invokevirtual 225, 3) := by decide +kernel
theorem dX10_advance_20 : decode cX10_advance 20 = .ok (.invokevirtual 229, 3) := by decide +kernel
theorem dX10_advance_23 : decode cX10_advance 23 = .ok (.ireturn, 1) := by decide +kernel
theorem dX10_leave_0 : decode cX10_leave 0 = .ok (.aload_n 0, 1) := by decide +kernel
theorem dX10_leave_1 : decode cX10_leave 1 = .ok (.aload_n 0, 1) := by decide +kernel
theorem dX10_leave_2 : decode cX10_leave 2 = .ok (.getfield 59, 3) := by decide +kernel
theorem dX10_leave_5 : decode cX10_leave 5 = .ok (.aload_n 0, 1) := by decide +kernel
theorem dX10_leave_6 : decode cX10_leave 6 = .ok (.getfield 10, 3) := by decide +kernel
theorem dX10_leave_9 : decode cX10_leave 9 = .ok (.aload_n 0, 1) := by decide +kernel
theorem dX10_leave_10 : decode cX10_leave 10 = .ok (.getfield 26, 3) := by decide +kernel
theorem dX10_leave_13 : decode cX10_leave 13 = .ok (.bipush 19, 2) := by decide +kernel
theorem dX10_leave_15 : decode cX10_leave 15 = .ok (.iload_n 1, 1) := by decide +kernel
theorem dX10_leave_16 : decode cX10_leave 16 = .ok (.iconst 0, 1) := by decide +kernel
theorem dX10_leave_17 : decode cX10_leave 17 = .ok (.invokevirtual 225, 3) := by decide +kernel
theorem dX10_leave_20 : decode cX10_leave 20 = .ok (.invokevirtual 229, 3) := by decide +kernel
theorem dX10_leave_23 : decode cX10_leave 23 = .ok (.ireturn, 1) := by decide +kernel
theorem dX10_undo_0 : decode cX10_undo 0 = .ok (.aload_n 0, 1) := by decide +kernel
theorem dX10_undo_1 : decode cX10_undo 1 = .ok (.aload_n 0, 1) := by decide +kernel
theorem dX10_undo_2 : decode cX10_undo 2 = .ok (.getfield 26, 3) := by decide +kernel
theorem dX10_undo_5 : decode cX10_undo 5 = .ok (.aload_n 0, 1) := by decide +kernel
theorem dX10_undo_6 : decode cX10_undo 6 = .ok (.getfield 10, 3) := by decide +kernel
theorem dX10_undo_9 : decode cX10_undo 9 = .ok (.invokevirtual 232, 3) := by decide +kernel
theorem dX10_undo_12 : decode cX10_undo 12 = .ok (.invokevirtual 229, 3) := by decide +kernel
theorem dX10_undo_15 : decode cX10_undo 15 = .ok (.ireturn, 1) := by decide +kernel
theorem dX10_money_0 : decode cX10_money 0 = .ok (.iload_n 1, 1) := by decide +kernel
theorem dX10_money_1 : decode cX10_money 1 = .ok (.ifCond .ne 11, 3) := by decide +kernel
theorem dX10_money_4 : decode cX10_money 4 = .ok (.aload_n 0, 1) := by decide +kernel
theorem dX10_money_5 : decode cX10_money 5 = .ok (.getfield 10, 3) := by decide +kernel
theorem dX10_money_8 : decode cX10_money 8 = .ok (.invokevirtual 236, 3) := by decide +kernel
theorem dX10_money_11 : decode cX10_money 11 = .ok (.ireturn, 1) := by decide +kernel
theorem dX10_money_12 : decode cX10_money 12 = .ok (.iload_n 1, 1) := by decide +kernel
theorem dX10_money_13 : decode cX10_money 13 = .ok (.iconst 1, 1) := by decide +kernel
theorem dX10_money_14 : decode cX10_money 14 = .ok (.if_icmp .ne 13, 3) := by decide +kernel
theorem dX10_money_17 : decode cX10_money 17 = .ok (.aload_n 0, 1) := by decide +kernel
theorem dX10_money_18 : decode cX10_money 18 = .ok (.getfield 10, 3) := by decide +kernel
theorem dX10_money_21 : decode cX10_money 21 = .ok (.invokevirtual 239, 3) := by decide +kernel
theorem dX10_money_24 : decode cX10_money 24 = .ok (.goto 5, 3) := by decide +kernel
theorem dX10_money_27 : decode cX10_money 27 = .ok (.ldc 111, 2) := by decide +kernel
theorem dX10_money_29 : decode cX10_money 29 = .ok (.ireturn, 1) := by decide +kernel
theorem dX10_parts_0 : decode cX10_parts 0 = .ok (.lconst 0, 1) := by decide +kernel
theorem dX10_parts_1 : decode cX10_parts 1 = .ok (.lstore_n 1, 1) := by decide +kernel
theorem dX10_parts_2 : decode cX10_parts 2 = .ok (.iconst 0, 1) := by decide +kernel
theorem dX10_parts_3 : decode cX10_parts 3 = .ok (.istore_n 3, 1) := by decide +kernel
theorem dX10_parts_4 : decode cX10_parts 4 = .ok (.iload_n 3, 1) := by decide +kernel
theorem dX10_parts_5 : decode cX10_parts 5 = .ok (.aload_n 0, 1) := by decide +kernel
theorem dX10_parts_6 : decode cX10_parts 6 = .ok (.getfield 10, 3) := by decide +kernel
theorem dX10_parts_9 : decode cX10_parts 9 = .ok (.getfield 94, 3) := by decide +kernel
theorem dX10_parts_12 : decode cX10_parts 12 = .ok (.if_icmp .ge 31, 3) := by decide +kernel
theorem dX10_parts_15 : decode cX10_parts 15 = .ok (.aload_n 0, 1) := by decide +kernel
theorem dX10_parts_16 : decode cX10_parts 16 = .ok (.getfield 10, 3) := by decide +kernel
theorem dX10_parts_19 : decode cX10_parts 19 = .ok (.iload_n 3, 1) := by decide +kernel
theorem dX10_parts_20 : decode cX10_parts 20 = .ok (.invokevirtual 121, 3) := by decide +kernel
theorem dX10_parts_23 : decode cX10_parts 23 = .ok (.ifCond .eq 14, 3) := by decide +kernel
theorem dX10_parts_26 : decode cX10_parts 26 = .ok (.lload_n 1, 1) := by decide +kernel
theorem dX10_parts_27 : decode cX10_parts 27 = .ok (.aload_n 0, 1) := by decide +kernel
theorem dX10_parts_28 : decode cX10_parts 28 = .ok (.getfield 10, 3) := by decide +kernel
theorem dX10_parts_31 : decode cX10_parts 31 = .ok (.iload_n 3, 1) := by decide +kernel
theorem dX10_parts_32 : decode cX10_parts 32 = .ok (.invokevirtual 242, 3) := by decide +kernel
theorem dX10_parts_35 : decode cX10_parts 35 = .ok (.ladd, 1) := by decide +kernel
theorem dX10_parts_36 : decode cX10_parts 36 = .ok (.lstore_n 1, 1) := by decide +kernel
theorem dX10_parts_37 : decode cX10_parts 37 = .ok (.iinc 3 1, 3) := by decide +kernel
theorem dX10_parts_40 : decode cX10_parts 40 = .ok (.goto (-36), 3) := by decide +kernel
theorem dX10_parts_43 : decode cX10_parts 43 = .ok (.lload_n 1, 1) := by decide +kernel
theorem dX10_parts_44 : decode cX10_parts 44 = .ok (.lreturn, 1) := by decide +kernel
theorem dX10_best_0 : decode cX10_best 0 = .ok (.iload_n 1, 1) := by decide +kernel
theorem dX10_best_1 : decode cX10_best 1 = .ok (.ifCond .lt 18, 3) := by decide +kernel
theorem dX10_best_4 : decode cX10_best 4 = .ok (.iload_n 1, 1) := by decide +kernel
theorem dX10_best_5 : decode cX10_best 5 = .ok (.bipush 12, 2) := by decide +kernel
theorem dX10_best_7 : decode cX10_best 7 = .ok (.if_icmp .gt 12, 3) := by decide +kernel
theorem dX10_best_10 : decode cX10_best 10 = .ok (.iload_n 2, 1) := by decide +kernel
theorem dX10_best_11 : decode cX10_best 11 = .ok (.ifCond .lt 8, 3) := by decide +kernel
theorem dX10_best_14 : decode cX10_best 14 = .ok (.iload_n 2, 1) := by decide +kernel
theorem dX10_best_15 : decode cX10_best 15 = .ok (.iconst 1, 1) := by decide +kernel
theorem dX10_best_16 : decode cX10_best 16 = .ok (.if_icmp .le 7, 3) := by decide +kernel
theorem dX10_best_19 : decode cX10_best 19 = .ok (.ldc2_w 246, 3) := by decide +kernel
theorem dX10_best_22 : decode cX10_best 22 = .ok (.lreturn, 1) := by decide +kernel
theorem dX10_best_23 : decode cX10_best 23 = .ok (.aload_n 0, 1) := by decide +kernel
theorem dX10_best_24 : decode cX10_best 24 = .ok (.getfield 75, 3) := by decide +kernel
theorem dX10_best_27 : decode cX10_best 27 = .ok (.aload_n 0, 1) := by decide +kernel
theorem dX10_best_28 : decode cX10_best 28 = .ok (.getfield 10, 3) := by decide +kernel
theorem dX10_best_31 : decode cX10_best 31 = .ok (.iload_n 1, 1) := by decide +kernel
theorem dX10_best_32 : decode cX10_best 32 = .ok (.iload_n 2, 1) := by decide +kernel
theorem dX10_best_33 : decode cX10_best 33 = .ok (.iconst 1, 1) := by decide +kernel
theorem dX10_best_34 : decode cX10_best 34 = .ok (.if_icmp .ne 7, 3) := by decide +kernel
theorem dX10_best_37 : decode cX10_best 37 = .ok (.iconst 1, 1) := by decide +kernel
theorem dX10_best_38 : decode cX10_best 38 = .ok (.goto 4, 3) := by decide +kernel
theorem dX10_best_41 : decode cX10_best 41 = .ok (.iconst 0, 1) := by decide +kernel
theorem dX10_best_42 : decode cX10_best 42 = .ok (.invokevirtual 248, 3) := by decide +kernel
theorem dX10_best_45 : decode cX10_best 45 = .ok (.lreturn, 1) := by decide +kernel
theorem dX10_odds_0 : decode cX10_odds 0 = .ok (.aload_n 0, 1) := by decide +kernel
theorem dX10_odds_1 : decode cX10_odds 1 = .ok (.getfield 10, 3) := by decide +kernel
theorem dX10_odds_4 : decode cX10_odds 4 = .ok (.iload_n 1, 1) := by decide +kernel
theorem dX10_odds_5 : decode cX10_odds 5 = .ok (.invokevirtual 150, 3) := by decide +kernel
theorem dX10_odds_8 : decode cX10_odds 8 = .ok (.ifCond .eq 24, 3) := by decide +kernel
theorem dX10_odds_11 : decode cX10_odds 11 = .ok (.iload_n 2, 1) := by decide +kernel
theorem dX10_odds_12 : decode cX10_odds 12 = .ok (.ifCond .lt 20, 3) := by decide +kernel
theorem dX10_odds_15 : decode cX10_odds 15 = .ok (.iload_n 2, 1) := by decide +kernel
theorem dX10_odds_16 : decode cX10_odds 16 = .ok (.bipush 24, 2) := by decide +kernel
theorem dX10_odds_18 : decode cX10_odds 18 = .ok (.if_icmp .gt 14, 3) := by decide +kernel
theorem dX10_odds_21 : decode cX10_odds 21 = .ok (.iload_n 3, 1) := by decide +kernel
theorem dX10_odds_22 : decode cX10_odds 22 = .ok (.ifCond .lt 10, 3) := by decide +kernel
theorem dX10_odds_25 : decode cX10_odds 25 = .ok (.iload_n 3, 1) := by decide +kernel
theorem dX10_odds_26 : decode cX10_odds 26 = .ok (.sipush 999, 3) := by decide +kernel
theorem dX10_odds_29 : decode cX10_odds 29 = .ok (.if_icmp .le 7, 3) := by decide +kernel
theorem dX10_odds_32 : decode cX10_odds 32 = .ok (.ldc2_w 246, 3) := by decide +kernel
theorem dX10_odds_35 : decode cX10_odds 35 = .ok (.lreturn, 1) := by decide +kernel
theorem dX10_odds_36 : decode cX10_odds 36 = .ok (.aload_n 0, 1) := by decide +kernel
theorem dX10_odds_37 : decode cX10_odds 37 = .ok (.getfield 75, 3) := by decide +kernel
theorem dX10_odds_40 : decode cX10_odds 40 = .ok (.aload_n 0, 1) := by decide +kernel
theorem dX10_odds_41 : decode cX10_odds 41 = .ok (.getfield 10, 3) := by decide +kernel
theorem dX10_odds_44 : decode cX10_odds 44 = .ok (.iload_n 1, 1) := by decide +kernel
theorem dX10_odds_45 : decode cX10_odds 45 = .ok (.iload_n 2, 1) := by decide +kernel
theorem dX10_odds_46 : decode cX10_odds 46 = .ok (.iload_n 3, 1) := by decide +kernel
theorem dX10_odds_47 : decode cX10_odds 47 = .ok (.invokevirtual 252, 3) := by decide +kernel
theorem dX10_odds_50 : decode cX10_odds 50 = .ok (.lreturn, 1) := by decide +kernel
theorem dX10_left_0 : decode cX10_left 0 = .ok (.iload_n 1, 1) := by decide +kernel
theorem dX10_left_1 : decode cX10_left 1 = .ok (.ifCond .lt 8, 3) := by decide +kernel
theorem dX10_left_4 : decode cX10_left 4 = .ok (.iload_n 1, 1) := by decide +kernel
theorem dX10_left_5 : decode cX10_left 5 = .ok (.iconst 1, 1) := by decide +kernel
theorem dX10_left_6 : decode cX10_left 6 = .ok (.if_icmp .le 5, 3) := by decide +kernel
theorem dX10_left_9 : decode cX10_left 9 = .ok (.iconst (-1), 1) := by decide +kernel
theorem dX10_left_10 : decode cX10_left 10 = .ok (.ireturn, 1) := by decide +kernel
theorem dX10_left_11 : decode cX10_left 11 = .ok (.aload_n 0, 1) := by decide +kernel
theorem dX10_left_12 : decode cX10_left 12 = .ok (.getfield 75, 3) := by decide +kernel
theorem dX10_left_15 : decode cX10_left 15 = .ok (.aload_n 0, 1) := by decide +kernel
theorem dX10_left_16 : decode cX10_left 16 = .ok (.getfield 10, 3) := by decide +kernel
theorem dX10_left_19 : decode cX10_left 19 = .ok (.iload_n 1, 1) := by decide +kernel
theorem dX10_left_20 : decode cX10_left 20 = .ok (.iconst 1, 1) := by decide +kernel
theorem dX10_left_21 : decode cX10_left 21 = .ok (.if_icmp .ne 7, 3) := by decide +kernel
theorem dX10_left_24 : decode cX10_left 24 = .ok (.iconst 1, 1) := by decide +kernel
theorem dX10_left_25 : decode cX10_left 25 = .ok (.goto 4, 3) := by decide +kernel
theorem dX10_left_28 : decode cX10_left 28 = .ok (.iconst 0, 1) := by decide +kernel
theorem dX10_left_29 : decode cX10_left 29 = .ok (.invokevirtual 256, 3) := by decide +kernel
theorem dX10_left_32 : decode cX10_left 32 = .ok (.ireturn, 1) := by decide +kernel
theorem dX10_least_0 : decode cX10_least 0 = .ok (.aload_n 0, 1) := by decide +kernel
theorem dX10_least_1 : decode cX10_least 1 = .ok (.getfield 10, 3) := by decide +kernel
theorem dX10_least_4 : decode cX10_least 4 = .ok (.iload_n 1, 1) := by decide +kernel
theorem dX10_least_5 : decode cX10_least 5 = .ok (.invokevirtual 107, 3) := by decide +kernel
theorem dX10_least_8 : decode cX10_least 8 = .ok (.ifCond .eq 14, 3) := by decide +kernel
theorem dX10_least_11 : decode cX10_least 11 = .ok (.aload_n 0, 1) := by decide +kernel
theorem dX10_least_12 : decode cX10_least 12 = .ok (.getfield 10, 3) := by decide +kernel
theorem dX10_least_15 : decode cX10_least 15 = .ok (.iload_n 1, 1) := by decide +kernel
theorem dX10_least_16 : decode cX10_least 16 = .ok (.invokevirtual 121, 3) := by decide +kernel
theorem dX10_least_19 : decode cX10_least 19 = .ok (.ifCond .ne 5, 3) := by decide +kernel
theorem dX10_least_22 : decode cX10_least 22 = .ok (.iconst (-1), 1) := by decide +kernel
theorem dX10_least_23 : decode cX10_least 23 = .ok (.ireturn, 1) := by decide +kernel
theorem dX10_least_24 : decode cX10_least 24 = .ok (.aload_n 0, 1) := by decide +kernel
theorem dX10_least_25 : decode cX10_least 25 = .ok (.getfield 75, 3) := by decide +kernel
theorem dX10_least_28 : decode cX10_least 28 = .ok (.aload_n 0, 1) := by decide +kernel
theorem dX10_least_29 : decode cX10_least 29 = .ok (.getfield 10, 3) := by decide +kernel
theorem dX10_least_32 : decode cX10_least 32 = .ok (.iload_n 1, 1) := by decide +kernel
theorem dX10_least_33 : decode cX10_least 33 = .ok (.invokevirtual 260, 3) := by decide +kernel
theorem dX10_least_36 : decode cX10_least 36 = .ok (.ireturn, 1) := by decide +kernel
theorem dX10_crew_0 : decode cX10_crew 0 = .ok (.aload_n 0, 1) := by decide +kernel
theorem dX10_crew_1 : decode cX10_crew 1 = .ok (.getfield 10, 3) := by decide +kernel
theorem dX10_crew_4 : decode cX10_crew 4 = .ok (.iload_n 1, 1) := by decide +kernel
theorem dX10_crew_5 : decode cX10_crew 5 = .ok (.invokevirtual 150, 3) := by decide +kernel
theorem dX10_crew_8 : decode cX10_crew 8 = .ok (.ifCond .eq 23, 3) := by decide +kernel
theorem dX10_crew_11 : decode cX10_crew 11 = .ok (.iload_n 2, 1) := by decide +kernel
theorem dX10_crew_12 : decode cX10_crew 12 = .ok (.iconst 1, 1) := by decide +kernel
theorem dX10_crew_13 : decode cX10_crew 13 = .ok (.if_icmp .lt 18, 3) := by decide +kernel
theorem dX10_crew_16 : decode cX10_crew 16 = .ok (.iload_n 2, 1) := by decide +kernel
theorem dX10_crew_17 : decode cX10_crew 17 = .ok (.bipush 99, 2) := by decide +kernel
theorem dX10_crew_19 : decode cX10_crew 19 = .ok (.if_icmp .gt 12, 3) := by decide +kernel
theorem dX10_crew_22 : decode cX10_crew 22 = .ok (.iload_n 3, 1) := by decide +kernel
theorem dX10_crew_23 : decode cX10_crew 23 = .ok (.ifCond .lt 8, 3) := by decide +kernel
theorem dX10_crew_26 : decode cX10_crew 26 = .ok (.iload_n 3, 1) := by decide +kernel
theorem dX10_crew_27 : decode cX10_crew 27 = .ok (.iconst 1, 1) := by decide +kernel
theorem dX10_crew_28 : decode cX10_crew 28 = .ok (.if_icmp .le 7, 3) := by decide +kernel
theorem dX10_crew_31 : decode cX10_crew 31 = .ok (.ldc2_w 246, 3) := by decide +kernel
theorem dX10_crew_34 : decode cX10_crew 34 = .ok (.lreturn, 1) := by decide +kernel
theorem dX10_crew_35 : decode cX10_crew 35 = .ok (.aload_n 0, 1) := by decide +kernel
theorem dX10_crew_36 : decode cX10_crew 36 = .ok (.getfield 75, 3) := by decide +kernel
theorem dX10_crew_39 : decode cX10_crew 39 = .ok (.aload_n 0, 1) := by decide +kernel
theorem dX10_crew_40 : decode cX10_crew 40 = .ok (.getfield 10, 3) := by decide +kernel
theorem dX10_crew_43 : decode cX10_crew 43 = .ok (.iload_n 1, 1) := by decide +kernel
theorem dX10_crew_44 : decode cX10_crew 44 = .ok (.iload_n 2, 1) := by decide +kernel
theorem dX10_crew_45 : decode cX10_crew 45 = .ok (.iload_n 3, 1) := by decide +kernel
theorem dX10_crew_46 : decode cX10_crew 46 = .ok (.iconst 1, 1) := by decide +kernel
theorem dX10_crew_47 : decode cX10_crew 47 = .ok (.if_icmp .ne 7, 3) := by decide +kernel
theorem dX10_crew_50 : decode cX10_crew 50 = .ok (.iconst 1, 1) := by decide +kernel
theorem dX10_crew_51 : decode cX10_crew 51 = .ok (.goto 4, 3) := by decide +kernel
theorem dX10_crew_54 : decode cX10_crew 54 = .ok (.iconst 0, 1) := by decide +kernel
theorem dX10_crew_55 : decode cX10_crew 55 = .ok (.invokevirtual 263, 3) := by decide +kernel
theorem dX10_crew_58 : decode cX10_crew 58 = .ok (.lreturn, 1) := by decide +kernel
theorem dX10_word_0 : decode cX10_word 0 = .ok (.iload_n 2, 1) := by decide +kernel
theorem dX10_word_1 : decode cX10_word 1 = .ok (.ifCond .lt 10, 3) := by decide +kernel
theorem dX10_word_4 : decode cX10_word 4 = .ok (.iload_n 2, 1) := by decide +kernel
theorem dX10_word_5 : decode cX10_word 5 = .ok (.ldc_w 267, 3) := by decide +kernel
theorem dX10_word_8 : decode cX10_word 8 = .ok (.if_icmp .le 9, 3) := by decide +kernel
theorem dX10_word_11 : decode cX10_word 11 = .ok (.aload_n 0, 1) := by decide +kernel
theorem dX10_word_12 : decode cX10_word 12 = .ok (.iconst (-1), 1) := by decide +kernel
theorem dX10_word_13 : decode cX10_word 13 = .ok (.invokevirtual 90, 3) := by decide +kernel
theorem dX10_word_16 : decode cX10_word 16 = .ok (.ireturn, 1) := by decide +kernel
theorem dX10_word_17 : decode cX10_word 17 = .ok (.aload_n 0, 1) := by decide +kernel
theorem dX10_word_18 : decode cX10_word 18 = .ok (.getfield 10, 3) := by decide +kernel
theorem dX10_word_21 : decode cX10_word 21 = .ok (.iload_n 1, 1) := by decide +kernel
theorem dX10_word_22 : decode cX10_word 22 = .ok (.invokevirtual 107, 3) := by decide +kernel
theorem dX10_word_25 : decode cX10_word 25 = .ok (.ifCond .ne 10, 3) := by decide +kernel
theorem dX10_word_28 : decode cX10_word 28 = .ok (.aload_n 0, 1) := by decide +kernel
theorem dX10_word_29 : decode cX10_word 29 = .ok (.bipush (-2), 2) := by decide +kernel
theorem dX10_word_31 : decode cX10_word 31 = .ok (.invokevirtual 90, 3) := by decide +kernel
theorem dX10_word_34 : decode cX10_word 34 = .ok (.ireturn, 1) := by decide +kernel
theorem dX10_word_35 : decode cX10_word 35 = .ok (.aload_n 0, 1) := by decide +kernel
theorem dX10_word_36 : decode cX10_word 36 = .ok (.getfield 10, 3) := by decide +kernel
theorem dX10_word_39 : decode cX10_word 39 = .ok (.getfield 268, 3) := by decide +kernel
theorem dX10_word_42 : decode cX10_word 42 = .ok (.bipush 8, 2) := by decide +kernel
theorem dX10_word_44 : decode cX10_word 44 = .ok (.if_icmp .lt 10, 3) := by decide +kernel
theorem dX10_word_47 : decode cX10_word 47 = .ok (.aload_n 0, 1) := by decide +kernel
theorem dX10_word_48 : decode cX10_word 48 = .ok (.bipush (-5), 2) := by decide +kernel
theorem dX10_word_50 : decode cX10_word 50 = .ok (.invokevirtual 90, 3) := by decide +kernel
theorem dX10_word_53 : decode cX10_word 53 = .ok (.ireturn, 1) := by decide +kernel
theorem dX10_word_54 : decode cX10_word 54 = .ok (.aload_n 0, 1) := by decide +kernel
theorem dX10_word_55 : decode cX10_word 55 = .ok (.aload_n 0, 1) := by decide +kernel
theorem dX10_word_56 : decode cX10_word 56 = .ok (.getfield 10, 3) := by decide +kernel
theorem dX10_word_59 : decode cX10_word 59 = .ok (.iload_n 1, 1) := by decide +kernel
theorem dX10_word_60 : decode cX10_word 60 = .ok (.iload_n 2, 1) := by decide +kernel
theorem dX10_word_61 : decode cX10_word 61 = .ok (.invokevirtual 271, 3) := by decide +kernel
theorem dX10_word_64 : decode cX10_word 64 = .ok (.invokevirtual 104, 3) := by decide +kernel
theorem dX10_word_67 : decode cX10_word 67 = .ok (.ireturn, 1) := by decide +kernel
theorem dX10_forget_0 : decode cX10_forget 0 = .ok (.aload_n 0, 1) := by decide +kernel
theorem dX10_forget_1 : decode cX10_forget 1 = .ok (.getfield 10, 3) := by decide +kernel
theorem dX10_forget_4 : decode cX10_forget 4 = .ok (.getfield 268, 3) := by decide +kernel
theorem dX10_forget_7 : decode cX10_forget 7 = .ok (.istore_n 1, 1) := by decide +kernel
theorem dX10_forget_8 : decode cX10_forget 8 = .ok (.aload_n 0, 1) := by decide +kernel
theorem dX10_forget_9 : decode cX10_forget 9 = .ok (.getfield 10, 3) := by decide +kernel
theorem dX10_forget_12 : decode cX10_forget 12 = .ok (.iconst 0, 1) := by decide +kernel
theorem dX10_forget_13 : decode cX10_forget 13 = .ok (.putfield 268, 3) := by decide +kernel
theorem dX10_forget_16 : decode cX10_forget 16 = .ok (.iload_n 1, 1) := by decide +kernel
theorem dX10_forget_17 : decode cX10_forget 17 = .ok (.ireturn, 1) := by decide +kernel
theorem dX10_barrels_0 : decode cX10_barrels 0 = .ok (.aload_n 0, 1) := by decide +kernel
theorem dX10_barrels_1 : decode cX10_barrels 1 = .ok (.getfield 75, 3) := by decide +kernel
theorem dX10_barrels_4 : decode cX10_barrels 4 = .ok (.aload_n 0, 1) := by decide +kernel
theorem dX10_barrels_5 : decode cX10_barrels 5 = .ok (.getfield 10, 3) := by decide +kernel
theorem dX10_barrels_8 : decode cX10_barrels 8 = .ok (.invokevirtual 274, 3) := by decide +kernel
theorem dX10_barrels_11 : decode cX10_barrels 11 = .ok (.aload_n 0, 1) := by decide +kernel
theorem dX10_barrels_12 : decode cX10_barrels 12 = .ok (.getfield 75, 3) := by decide +kernel
theorem dX10_barrels_15 : decode cX10_barrels 15 = .ok (.getfield 277, 3) := by decide +kernel
theorem dX10_barrels_18 : decode cX10_barrels 18 = .ok (.aload_n 0, 1) := by decide +kernel
theorem dX10_barrels_19 : decode cX10_barrels 19 = .ok (.getfield 75, 3) := by decide +kernel
theorem dX10_barrels_22 : decode cX10_barrels 22 = .ok (.getfield 280, 3) := by decide +kernel
theorem dX10_barrels_25 : decode cX10_barrels 25 = .ok (.if_icmp .gt 7, 3) := by decide +kernel
theorem dX10_barrels_28 : decode cX10_barrels 28 = .ok (.iconst 1, 1) := by decide +kernel
theorem dX10_barrels_29 : decode cX10_barrels 29 = .ok (.goto 4, 3) := by decide +kernel
theorem dX10_barrels_32 : decode cX10_barrels 32 = .ok (.iconst 0, 1) := by decide +kernel
theorem dX10_barrels_33 : decode cX10_barrels 33 = .ok (.istore_n 2, 1) := by decide +kernel
theorem dX10_barrels_34 : decode cX10_barrels 34 = .ok (.iload_n 1, 1) := by decide +kernel
theorem dX10_barrels_35 : decode cX10_barrels 35 = .ok (.tableswitch 83 0 2 #[25, 51, 67], 25) := by decide +kernel
theorem dX10_barrels_60 : decode cX10_barrels 60 = .ok (.iload_n 2, 1) := by decide +kernel
theorem dX10_barrels_61 : decode cX10_barrels 61 = .ok (.ifCond .eq 23, 3) := by decide +kernel
theorem dX10_barrels_64 : decode cX10_barrels 64 = .ok (.aload_n 0, 1) := by decide +kernel
theorem dX10_barrels_65 : decode cX10_barrels 65 = .ok (.getfield 75, 3) := by decide +kernel
theorem dX10_barrels_68 : decode cX10_barrels 68 = .ok (.getfield 280, 3) := by decide +kernel
theorem dX10_barrels_71 : decode cX10_barrels 71 = .ok (.aload_n 0, 1) := by decide +kernel
theorem dX10_barrels_72 : decode cX10_barrels 72 = .ok (.getfield 75, 3) := by decide +kernel
theorem dX10_barrels_75 : decode cX10_barrels 75 = .ok (.getfield 277, 3) := by decide +kernel
theorem dX10_barrels_78 : decode cX10_barrels 78 = .ok (.isub, 1) := by decide +kernel
theorem dX10_barrels_79 : decode cX10_barrels 79 = .ok (.iconst 1, 1) := by decide +kernel
theorem dX10_barrels_80 : decode cX10_barrels 80 = .ok (.iadd, 1) := by decide +kernel
theorem dX10_barrels_81 : decode cX10_barrels 81 = .ok (.goto 4, 3) := by decide +kernel
theorem dX10_barrels_84 : decode cX10_barrels 84 = .ok (.iconst 0, 1) := by decide +kernel
theorem dX10_barrels_85 : decode cX10_barrels 85 = .ok (.ireturn, 1) := by decide +kernel
theorem dX10_barrels_86 : decode cX10_barrels 86 = .ok (.iload_n 2, 1) := by decide +kernel
theorem dX10_barrels_87 : decode cX10_barrels 87 = .ok (.ifCond .eq 13, 3) := by decide +kernel
theorem dX10_barrels_90 : decode cX10_barrels 90 = .ok (.aload_n 0, 1) := by decide +kernel
theorem dX10_barrels_91 : decode cX10_barrels 91 = .ok (.getfield 75, 3) := by decide +kernel
theorem dX10_barrels_94 : decode cX10_barrels 94 = .ok (.getfield 277, 3) := by decide +kernel
theorem dX10_barrels_97 : decode cX10_barrels 97 = .ok (.goto 4, 3) := by decide +kernel
theorem dX10_barrels_100 : decode cX10_barrels 100 = .ok (.iconst (-1), 1) := by decide +kernel
theorem dX10_barrels_101 : decode cX10_barrels 101 = .ok (.ireturn, 1) := by decide +kernel
theorem dX10_barrels_102 : decode cX10_barrels 102 = .ok (.iload_n 2, 1) := by decide +kernel
theorem dX10_barrels_103 : decode cX10_barrels 103 = .ok (.ifCond .eq 13, 3) := by decide +kernel
theorem dX10_barrels_106 : decode cX10_barrels 106 = .ok (.aload_n 0, 1) := by decide +kernel
theorem dX10_barrels_107 : decode cX10_barrels 107 = .ok (.getfield 75, 3) := by decide +kernel
theorem dX10_barrels_110 : decode cX10_barrels 110 = .ok (.getfield 280, 3) := by decide +kernel
theorem dX10_barrels_113 : decode cX10_barrels 113 = .ok (.goto 4, 3) := by decide +kernel
theorem dX10_barrels_116 : decode cX10_barrels 116 = .ok (.iconst (-1), 1) := by decide +kernel
theorem dX10_barrels_117 : decode cX10_barrels 117 = .ok (.ireturn, 1) := by decide +kernel
theorem dX10_barrels_118 : decode cX10_barrels 118 = .ok (.iconst (-1), 1) := by decide +kernel
theorem dX10_barrels_119 : decode cX10_barrels 119 = .ok (.ireturn, 1) := by decide +kernel
theorem dX10_ask_0 : decode cX10_ask 0 = .ok (.iload_n 1, 1) := by decide +kernel
theorem dX10_ask_1 : decode cX10_ask 1 = .ok (.ifCond .lt 8, 3) := by decide +kernel
theorem dX10_ask_4 : decode cX10_ask 4 = .ok (.iload_n 1, 1) := by decide +kernel
theorem dX10_ask_5 : decode cX10_ask 5 = .ok (.iconst 1, 1) := by decide +kernel
theorem dX10_ask_6 : decode cX10_ask 6 = .ok (.if_icmp .le 5, 3) := by decide +kernel
theorem dX10_ask_9 : decode cX10_ask 9 = .ok (.iconst (-1), 1) := by decide +kernel
theorem dX10_ask_10 : decode cX10_ask 10 = .ok (.ireturn, 1) := by decide +kernel
theorem dX10_ask_11 : decode cX10_ask 11 = .ok (.aload_n 0, 1) := by decide +kernel
theorem dX10_ask_12 : decode cX10_ask 12 = .ok (.getfield 75, 3) := by decide +kernel
theorem dX10_ask_15 : decode cX10_ask 15 = .ok (.aload_n 0, 1) := by decide +kernel
theorem dX10_ask_16 : decode cX10_ask 16 = .ok (.getfield 10, 3) := by decide +kernel
theorem dX10_ask_19 : decode cX10_ask 19 = .ok (.iload_n 1, 1) := by decide +kernel
theorem dX10_ask_20 : decode cX10_ask 20 = .ok (.iconst 1, 1) := by decide +kernel
theorem dX10_ask_21 : decode cX10_ask 21 = .ok (.if_icmp .ne 7, 3) := by decide +kernel
theorem dX10_ask_24 : decode cX10_ask 24 = .ok (.iconst 1, 1) := by decide +kernel
theorem dX10_ask_25 : decode cX10_ask 25 = .ok (.goto 4, 3) := by decide +kernel
theorem dX10_ask_28 : decode cX10_ask 28 = .ok (.iconst 0, 1) := by decide +kernel
theorem dX10_ask_29 : decode cX10_ask 29 = .ok (.invokevirtual 283, 3) := by decide +kernel
theorem dX10_ask_32 : decode cX10_ask 32 = .ok (.ireturn, 1) := by decide +kernel
theorem dX10_years_0 : decode cX10_years 0 = .ok (.iload_n 1, 1) := by decide +kernel
theorem dX10_years_1 : decode cX10_years 1 = .ok (.ifCond .lt 21, 3) := by decide +kernel
theorem dX10_years_4 : decode cX10_years 4 = .ok (.iload_n 1, 1) := by decide +kernel
theorem dX10_years_5 : decode cX10_years 5 = .ok (.ldc_w 286, 3) := by decide +kernel
theorem dX10_years_8 : decode cX10_years 8 = .ok (.if_icmp .gt 14, 3) := by decide +kernel
theorem dX10_years_11 : decode cX10_years 11 = .ok (.iload_n 2, 1) := by decide +kernel
theorem dX10_years_12 : decode cX10_years 12 = .ok (.iconst 1, 1) := by decide +kernel
theorem dX10_years_13 : decode cX10_years 13 = .ok (.if_icmp .lt 9, 3) := by decide +kernel
theorem dX10_years_16 : decode cX10_years 16 = .ok (.iload_n 2, 1) := by decide +kernel
theorem dX10_years_17 : decode cX10_years 17 = .ok (.bipush 60, 2) := by decide +kernel
theorem dX10_years_19 : decode cX10_years 19 = .ok (.if_icmp .le 9, 3) := by decide +kernel
theorem dX10_years_22 : decode cX10_years 22 = .ok (.aload_n 0, 1) := by decide +kernel
theorem dX10_years_23 : decode cX10_years 23 = .ok (.iconst (-1), 1) := by decide +kernel
theorem dX10_years_24 : decode cX10_years 24 = .ok (.invokevirtual 90, 3) := by decide +kernel
theorem dX10_years_27 : decode cX10_years 27 = .ok (.ireturn, 1) := by decide +kernel
theorem dX10_years_28 : decode cX10_years 28 = .ok (.aload_n 0, 1) := by decide +kernel
theorem dX10_years_29 : decode cX10_years 29 = .ok (.getfield 10, 3) := by decide +kernel
theorem dX10_years_32 : decode cX10_years 32 = .ok (.getfield 143, 3) := by decide +kernel
theorem dX10_years_35 : decode cX10_years 35 = .ok (.ifCond .ne 10, 3) := by decide +kernel
theorem dX10_years_38 : decode cX10_years 38 = .ok (.aload_n 0, 1) := by decide +kernel
theorem dX10_years_39 : decode cX10_years 39 = .ok (.bipush (-3), 2) := by decide +kernel
theorem dX10_years_41 : decode cX10_years 41 = .ok (.invokevirtual 90, 3) := by decide +kernel
theorem dX10_years_44 : decode cX10_years 44 = .ok (.ireturn, 1) := by decide +kernel
theorem dX10_years_45 : decode cX10_years 45 = .ok (.aload_n 0, 1) := by decide +kernel
theorem dX10_years_46 : decode cX10_years 46 = .ok (.getfield 287, 3) := by decide +kernel
theorem dX10_years_49 : decode cX10_years 49 = .ok (.ifnonnull 14, 3) := by decide +kernel
theorem dX10_years_52 : decode cX10_years 52 = .ok (.aload_n 0, 1) := by decide +kernel
theorem dX10_years_53 : decode cX10_years 53 = .ok (.new 7, 3) := by decide +kernel
theorem dX10_years_56 : decode cX10_years 56 = .ok (.dup, 1) := by decide +kernel
theorem dX10_years_57 : decode cX10_years 57 = .ok (.invokespecial 9, 3) := by decide +kernel
theorem dX10_years_60 : decode cX10_years 60 = .ok (.putfield 287, 3) := by decide +kernel
theorem dX10_years_63 : decode cX10_years 63 = .ok (.aload_n 0, 1) := by decide +kernel
theorem dX10_years_64 : decode cX10_years 64 = .ok (.getfield 287, 3) := by decide +kernel
theorem dX10_years_67 : decode cX10_years 67 = .ok (.aload_n 0, 1) := by decide +kernel
theorem dX10_years_68 : decode cX10_years 68 = .ok (.getfield 10, 3) := by decide +kernel
theorem dX10_years_71 : decode cX10_years 71 = .ok (.invokevirtual 210, 3) := by decide +kernel
theorem dX10_years_74 : decode cX10_years 74 = .ok (.aload_n 0, 1) := by decide +kernel
theorem dX10_years_75 : decode cX10_years 75 = .ok (.aload_n 0, 1) := by decide +kernel
theorem dX10_years_76 : decode cX10_years 76 = .ok (.getfield 59, 3) := by decide +kernel
theorem dX10_years_79 : decode cX10_years 79 = .ok (.aload_n 0, 1) := by decide +kernel
theorem dX10_years_80 : decode cX10_years 80 = .ok (.getfield 287, 3) := by decide +kernel
theorem dX10_years_83 : decode cX10_years 83 = .ok (.iload_n 1, 1) := by decide +kernel
theorem dX10_years_84 : decode cX10_years 84 = .ok (.iload_n 2, 1) := by decide +kernel
theorem dX10_years_85 : decode cX10_years 85 = .ok (.invokevirtual 290, 3) := by decide +kernel
theorem dX10_years_88 : decode cX10_years 88 = .ok (.invokevirtual 104, 3) := by decide +kernel
theorem dX10_years_91 : decode cX10_years 91 = .ok (.ireturn, 1) := by decide +kernel
theorem dX10_drawn_0 : decode cX10_drawn 0 = .ok (.aload_n 0, 1) := by decide +kernel
theorem dX10_drawn_1 : decode cX10_drawn 1 = .ok (.getfield 287, 3) := by decide +kernel
theorem dX10_drawn_4 : decode cX10_drawn 4 = .ok (.ifnonnull 5, 3) := by decide +kernel
theorem dX10_drawn_7 : decode cX10_drawn 7 = .ok (.iconst (-1), 1) := by decide +kernel
theorem dX10_drawn_8 : decode cX10_drawn 8 = .ok (.ireturn, 1) := by decide +kernel
theorem dX10_drawn_9 : decode cX10_drawn 9 = .ok (.iload_n 2, 1) := by decide +kernel
theorem dX10_drawn_10 : decode cX10_drawn 10 = .ok (.tableswitch 98 0 3 #[30, 38, 48, 73], 30) := by decide +kernel
theorem dX10_drawn_40 : decode cX10_drawn 40 = .ok (.aload_n 0, 1) := by decide +kernel
theorem dX10_drawn_41 : decode cX10_drawn 41 = .ok (.getfield 287, 3) := by decide +kernel
theorem dX10_drawn_44 : decode cX10_drawn 44 = .ok (.getfield 293, 3) := by decide +kernel
theorem dX10_drawn_47 : decode cX10_drawn 47 = .ok (.ireturn, 1) := by decide +kernel
theorem dX10_drawn_48 : decode cX10_drawn 48 = .ok (.aload_n 0, 1) := by decide +kernel
theorem dX10_drawn_49 : decode cX10_drawn 49 = .ok (.getfield 287, 3) := by decide +kernel
theorem dX10_drawn_52 : decode cX10_drawn 52 = .ok (.getfield 170, 3) := by decide +kernel
theorem dX10_drawn_55 : decode cX10_drawn 55 = .ok (.iconst 0, 1) := by decide +kernel
theorem dX10_drawn_56 : decode cX10_drawn 56 = .ok (.iaload, 1) := by decide +kernel
theorem dX10_drawn_57 : decode cX10_drawn 57 = .ok (.ireturn, 1) := by decide +kernel
theorem dX10_drawn_58 : decode cX10_drawn 58 = .ok (.aload_n 0, 1) := by decide +kernel
theorem dX10_drawn_59 : decode cX10_drawn 59 = .ok (.getfield 287, 3) := by decide +kernel
theorem dX10_drawn_62 : decode cX10_drawn 62 = .ok (.iload_n 1, 1) := by decide +kernel
theorem dX10_drawn_63 : decode cX10_drawn 63 = .ok (.invokevirtual 150, 3) := by decide +kernel
theorem dX10_drawn_66 : decode cX10_drawn 66 = .ok (.ifCond .eq 15, 3) := by decide +kernel
theorem dX10_drawn_69 : decode cX10_drawn 69 = .ok (.aload_n 0, 1) := by decide +kernel
theorem dX10_drawn_70 : decode cX10_drawn 70 = .ok (.getfield 287, 3) := by decide +kernel
theorem dX10_drawn_73 : decode cX10_drawn 73 = .ok (.getfield 153, 3) := by decide +kernel
theorem dX10_drawn_76 : decode cX10_drawn 76 = .ok (.iload_n 1, 1) := by decide +kernel
theorem dX10_drawn_77 : decode cX10_drawn 77 = .ok (.iaload, 1) := by decide +kernel
theorem dX10_drawn_78 : decode cX10_drawn 78 = .ok (.goto 4, 3) := by decide +kernel
theorem dX10_drawn_81 : decode cX10_drawn 81 = .ok (.iconst (-1), 1) := by decide +kernel
theorem dX10_drawn_82 : decode cX10_drawn 82 = .ok (.ireturn, 1) := by decide +kernel
theorem dX10_drawn_83 : decode cX10_drawn 83 = .ok (.aload_n 0, 1) := by decide +kernel
theorem dX10_drawn_84 : decode cX10_drawn 84 = .ok (.getfield 287, 3) := by decide +kernel
theorem dX10_drawn_87 : decode cX10_drawn 87 = .ok (.iload_n 1, 1) := by decide +kernel
theorem dX10_drawn_88 : decode cX10_drawn 88 = .ok (.invokevirtual 107, 3) := by decide +kernel
theorem dX10_drawn_91 : decode cX10_drawn 91 = .ok (.ifCond .eq 15, 3) := by decide +kernel
theorem dX10_drawn_94 : decode cX10_drawn 94 = .ok (.aload_n 0, 1) := by decide +kernel
theorem dX10_drawn_95 : decode cX10_drawn 95 = .ok (.getfield 287, 3) := by decide +kernel
theorem dX10_drawn_98 : decode cX10_drawn 98 = .ok (.getfield 115, 3) := by decide +kernel
theorem dX10_drawn_101 : decode cX10_drawn 101 = .ok (.iload_n 1, 1) := by decide +kernel
theorem dX10_drawn_102 : decode cX10_drawn 102 = .ok (.iaload, 1) := by decide +kernel
theorem dX10_drawn_103 : decode cX10_drawn 103 = .ok (.goto 4, 3) := by decide +kernel
theorem dX10_drawn_106 : decode cX10_drawn 106 = .ok (.iconst (-1), 1) := by decide +kernel
theorem dX10_drawn_107 : decode cX10_drawn 107 = .ok (.ireturn, 1) := by decide +kernel
theorem dX10_drawn_108 : decode cX10_drawn 108 = .ok (.iconst (-1), 1) := by decide +kernel
theorem dX10_drawn_109 : decode cX10_drawn 109 = .ok (.ireturn, 1) := by decide +kernel
theorem dX10_image_0 : decode cX10_image 0 = .ok (.iload_n 1, 1) := by decide +kernel
theorem dX10_image_1 : decode cX10_image 1 = .ok (.ifCond .lt 8, 3) := by decide +kernel
theorem dX10_image_4 : decode cX10_image 4 = .ok (.iload_n 1, 1) := by decide +kernel
theorem dX10_image_5 : decode cX10_image 5 = .ok (.iconst 2, 1) := by decide +kernel
theorem dX10_image_6 : decode cX10_image 6 = .ok (.if_icmp .lt 9, 3) := by decide +kernel
theorem dX10_image_9 : decode cX10_image 9 = .ok (.aload_n 0, 1) := by decide +kernel
theorem dX10_image_10 : decode cX10_image 10 = .ok (.iconst (-1), 1) := by decide +kernel
theorem dX10_image_11 : decode cX10_image 11 = .ok (.invokevirtual 90, 3) := by decide +kernel
theorem dX10_image_14 : decode cX10_image 14 = .ok (.ireturn, 1) := by decide +kernel
theorem dX10_image_15 : decode cX10_image 15 = .ok (.aload_n 0, 1) := by decide +kernel
theorem dX10_image_16 : decode cX10_image 16 = .ok (.getfield 19, 3) := by decide +kernel
theorem dX10_image_19 : decode cX10_image 19 = .ok (.iload_n 1, 1) := by decide +kernel
theorem dX10_image_20 : decode cX10_image 20 = .ok (.aaload, 1) := by decide +kernel
theorem dX10_image_21 : decode cX10_image 21 = .ok (.ifnonnull 16, 3) := by decide +kernel
theorem dX10_image_24 : decode cX10_image 24 = .ok (.aload_n 0, 1) := by decide +kernel
theorem dX10_image_25 : decode cX10_image 25 = .ok (.getfield 19, 3) := by decide +kernel
theorem dX10_image_28 : decode cX10_image 28 = .ok (.iload_n 1, 1) := by decide +kernel
theorem dX10_image_29 : decode cX10_image 29 = .ok (.new 7, 3) := by decide +kernel
theorem dX10_image_32 : decode cX10_image 32 = .ok (.dup, 1) := by decide +kernel
theorem dX10_image_33 : decode cX10_image 33 = .ok (.invokespecial 9, 3) := by decide +kernel
theorem dX10_image_36 : decode cX10_image 36 = .ok (.aastore, 1) := by decide +kernel
theorem dX10_image_37 : decode cX10_image 37 = .ok (.aload_n 0, 1) := by decide +kernel
theorem dX10_image_38 : decode cX10_image 38 = .ok (.getfield 19, 3) := by decide +kernel
theorem dX10_image_41 : decode cX10_image 41 = .ok (.iload_n 1, 1) := by decide +kernel
theorem dX10_image_42 : decode cX10_image 42 = .ok (.aaload, 1) := by decide +kernel
theorem dX10_image_43 : decode cX10_image 43 = .ok (.aload_n 0, 1) := by decide +kernel
theorem dX10_image_44 : decode cX10_image 44 = .ok (.getfield 10, 3) := by decide +kernel
theorem dX10_image_47 : decode cX10_image 47 = .ok (.invokevirtual 210, 3) := by decide +kernel
theorem dX10_image_50 : decode cX10_image 50 = .ok (.aload_n 0, 1) := by decide +kernel
theorem dX10_image_51 : decode cX10_image 51 = .ok (.iconst 0, 1) := by decide +kernel
theorem dX10_image_52 : decode cX10_image 52 = .ok (.invokevirtual 104, 3) := by decide +kernel
theorem dX10_image_55 : decode cX10_image 55 = .ok (.ireturn, 1) := by decide +kernel
theorem dX10_back_0 : decode cX10_back 0 = .ok (.iload_n 1, 1) := by decide +kernel
theorem dX10_back_1 : decode cX10_back 1 = .ok (.ifCond .lt 8, 3) := by decide +kernel
theorem dX10_back_4 : decode cX10_back 4 = .ok (.iload_n 1, 1) := by decide +kernel
theorem dX10_back_5 : decode cX10_back 5 = .ok (.iconst 2, 1) := by decide +kernel
theorem dX10_back_6 : decode cX10_back 6 = .ok (.if_icmp .lt 9, 3) := by decide +kernel
theorem dX10_back_9 : decode cX10_back 9 = .ok (.aload_n 0, 1) := by decide +kernel
theorem dX10_back_10 : decode cX10_back 10 = .ok (.iconst (-1), 1) := by decide +kernel
theorem dX10_back_11 : decode cX10_back 11 = .ok (.invokevirtual 90, 3) := by decide +kernel
theorem dX10_back_14 : decode cX10_back 14 = .ok (.ireturn, 1) := by decide +kernel
theorem dX10_back_15 : decode cX10_back 15 = .ok (.aload_n 0, 1) := by decide +kernel
theorem dX10_back_16 : decode cX10_back 16 = .ok (.getfield 19, 3) := by decide +kernel
theorem dX10_back_19 : decode cX10_back 19 = .ok (.iload_n 1, 1) := by decide +kernel
theorem dX10_back_20 : decode cX10_back 20 = .ok (.aaload, 1) := by decide +kernel
theorem dX10_back_21 : decode cX10_back 21 = .ok (.ifnonnull 10, 3) := by decide +kernel
theorem dX10_back_24 : decode cX10_back 24 = .ok (.aload_n 0, 1) := by decide +kernel
theorem dX10_back_25 : decode cX10_back 25 = .ok (.bipush (-2), 2) := by decide +kernel
theorem dX10_back_27 : decode cX10_back 27 = .ok (.invokevirtual 90, 3) := by decide +kernel
theorem dX10_back_30 : decode cX10_back 30 = .ok (.ireturn, 1) := by decide +kernel
theorem dX10_back_31 : decode cX10_back 31 = .ok (.aload_n 0, 1) := by decide +kernel
theorem dX10_back_32 : decode cX10_back 32 = .ok (.getfield 10, 3) := by decide +kernel
theorem dX10_back_35 : decode cX10_back 35 = .ok (.aload_n 0, 1) := by decide +kernel
theorem dX10_back_36 : decode cX10_back 36 = .ok (.getfield 19, 3) := by decide +kernel
theorem dX10_back_39 : decode cX10_back 39 = .ok (.iload_n 1, 1) := by decide +kernel
theorem dX10_back_40 : decode cX10_back 40 = .ok (.aaload, 1) := by decide +kernel
theorem dX10_back_41 : decode cX10_back 41 = .ok (.invokevirtual 210, 3) := by decide +kernel
theorem dX10_back_44 : decode cX10_back 44 = .ok (.aload_n 0, 1) := by decide +kernel
theorem dX10_back_45 : decode cX10_back 45 = .ok (.getfield 26, 3) := by decide +kernel
theorem dX10_back_48 : decode cX10_back 48 = .ok (.invokevirtual 97, 3) := by decide +kernel
theorem dX10_back_51 : decode cX10_back 51 = .ok (.aload_n 0, 1) := by decide +kernel
theorem dX10_back_52 : decode cX10_back 52 = .ok (.iconst 0, 1) := by decide +kernel
theorem dX10_back_53 : decode cX10_back 53 = .ok (.invokevirtual 104, 3) := by decide +kernel
theorem dX10_back_56 : decode cX10_back 56 = .ok (.ireturn, 1) := by decide +kernel
theorem dX10_count_0 : decode cX10_count 0 = .ok (.iload_n 1, 1) := by decide +kernel
theorem dX10_count_1 : decode cX10_count 1 = .ok (.bipush 15, 2) := by decide +kernel
theorem dX10_count_3 : decode cX10_count 3 = .ok (.if_icmp .lt 22, 3) := by decide +kernel
theorem dX10_count_6 : decode cX10_count 6 = .ok (.iload_n 1, 1) := by decide +kernel
theorem dX10_count_7 : decode cX10_count 7 = .ok (.bipush 17, 2) := by decide +kernel
theorem dX10_count_9 : decode cX10_count 9 = .ok (.if_icmp .gt 16, 3) := by decide +kernel
theorem dX10_count_12 : decode cX10_count 12 = .ok (.aload_n 0, 1) := by decide +kernel
theorem dX10_count_13 : decode cX10_count 13 = .ok (.getfield 10, 3) := by decide +kernel
theorem dX10_count_16 : decode cX10_count 16 = .ok (.getfield 170, 3) := by decide +kernel
theorem dX10_count_19 : decode cX10_count 19 = .ok (.iload_n 1, 1) := by decide +kernel
theorem dX10_count_20 : decode cX10_count 20 = .ok (.bipush 15, 2) := by decide +kernel
theorem dX10_count_22 : decode cX10_count 22 = .ok (.isub, 1) := by decide +kernel
theorem dX10_count_23 : decode cX10_count 23 = .ok (.iaload, 1) := by decide +kernel
theorem dX10_count_24 : decode cX10_count 24 = .ok (.ireturn, 1) := by decide +kernel
theorem dX10_count_25 : decode cX10_count 25 = .ok (.iload_n 1, 1) := by decide +kernel
theorem dX10_count_26 : decode cX10_count 26 = .ok (.bipush 18, 2) := by decide +kernel
theorem dX10_count_28 : decode cX10_count 28 = .ok (.if_icmp .lt 22, 3) := by decide +kernel
theorem dX10_count_31 : decode cX10_count 31 = .ok (.iload_n 1, 1) := by decide +kernel
theorem dX10_count_32 : decode cX10_count 32 = .ok (.bipush 24, 2) := by decide +kernel
theorem dX10_count_34 : decode cX10_count 34 = .ok (.if_icmp .ge 16, 3) := by decide +kernel
theorem dX10_count_37 : decode cX10_count 37 = .ok (.aload_n 0, 1) := by decide +kernel
theorem dX10_count_38 : decode cX10_count 38 = .ok (.getfield 10, 3) := by decide +kernel
theorem dX10_count_41 : decode cX10_count 41 = .ok (.getfield 163, 3) := by decide +kernel
theorem dX10_count_44 : decode cX10_count 44 = .ok (.iload_n 1, 1) := by decide +kernel
theorem dX10_count_45 : decode cX10_count 45 = .ok (.bipush 18, 2) := by decide +kernel
theorem dX10_count_47 : decode cX10_count 47 = .ok (.isub, 1) := by decide +kernel
theorem dX10_count_48 : decode cX10_count 48 = .ok (.iaload, 1) := by decide +kernel
theorem dX10_count_49 : decode cX10_count 49 = .ok (.ireturn, 1) := by decide +kernel
theorem dX10_count_50 : decode cX10_count 50 = .ok (.iload_n 1, 1) := by decide +kernel
theorem dX10_count_51 : decode cX10_count 51 = .ok (.tableswitch 189 0 14 #[73, 81, 89, 97, 105, 113, 121, 129, 136, 143, 150, 157, 165, 173, 181], 73) := by decide +kernel
theorem dX10_count_124 : decode cX10_count 124 = .ok (.aload_n 0, 1) := by decide +kernel
theorem dX10_count_125 : decode cX10_count 125 = .ok (.getfield 10, 3) := by decide +kernel
theorem dX10_count_128 : decode cX10_count 128 = .ok (.getfield 94, 3) := by decide +kernel
theorem dX10_count_131 : decode cX10_count 131 = .ok (.ireturn, 1) := by decide +kernel
theorem dX10_count_132 : decode cX10_count 132 = .ok (.aload_n 0, 1) := by decide +kernel
theorem dX10_count_133 : decode cX10_count 133 = .ok (.getfield 10, 3) := by decide +kernel
theorem dX10_count_136 : decode cX10_count 136 = .ok (.invokevirtual 128, 3) := by decide +kernel
theorem dX10_count_139 : decode cX10_count 139 = .ok (.ireturn, 1) := by decide +kernel
theorem dX10_count_140 : decode cX10_count 140 = .ok (.aload_n 0, 1) := by decide +kernel
theorem dX10_count_141 : decode cX10_count 141 = .ok (.getfield 10, 3) := by decide +kernel
theorem dX10_count_144 : decode cX10_count 144 = .ok (.getfield 143, 3) := by decide +kernel
theorem dX10_count_147 : decode cX10_count 147 = .ok (.ireturn, 1) := by decide +kernel
theorem dX10_count_148 : decode cX10_count 148 = .ok (.aload_n 0, 1) := by decide +kernel
theorem dX10_count_149 : decode cX10_count 149 = .ok (.getfield 10, 3) := by decide +kernel
theorem dX10_count_152 : decode cX10_count 152 = .ok (.getfield 268, 3) := by decide +kernel
theorem dX10_count_155 : decode cX10_count 155 = .ok (.ireturn, 1) := by decide +kernel
theorem dX10_count_156 : decode cX10_count 156 = .ok (.aload_n 0, 1) := by decide +kernel
theorem dX10_count_157 : decode cX10_count 157 = .ok (.getfield 10, 3) := by decide +kernel
theorem dX10_count_160 : decode cX10_count 160 = .ok (.getfield 189, 3) := by decide +kernel
theorem dX10_count_163 : decode cX10_count 163 = .ok (.ireturn, 1) := by decide +kernel
theorem dX10_count_164 : decode cX10_count 164 = .ok (.aload_n 0, 1) := by decide +kernel
theorem dX10_count_165 : decode cX10_count 165 = .ok (.getfield 26, 3) := by decide +kernel
theorem dX10_count_168 : decode cX10_count 168 = .ok (.getfield 296, 3) := by decide +kernel
theorem dX10_count_171 : decode cX10_count 171 = .ok (.ireturn, 1) := by decide +kernel
theorem dX10_count_172 : decode cX10_count 172 = .ok (.aload_n 0, 1) := by decide +kernel
theorem dX10_count_173 : decode cX10_count 173 = .ok (.getfield 36, 3) := by decide +kernel
theorem dX10_count_176 : decode cX10_count 176 = .ok (.getfield 173, 3) := by decide +kernel
theorem dX10_count_179 : decode cX10_count 179 = .ok (.ireturn, 1) := by decide +kernel
theorem dX10_count_180 : decode cX10_count 180 = .ok (.aload_n 0, 1) := by decide +kernel
theorem dX10_count_181 : decode cX10_count 181 = .ok (.getfield 86, 3) := by decide +kernel
theorem dX10_count_184 : decode cX10_count 184 = .ok (.iconst 1, 1) := by decide +kernel
theorem dX10_count_185 : decode cX10_count 185 = .ok (.iaload, 1) := by decide +kernel
theorem dX10_count_186 : decode cX10_count 186 = .ok (.ireturn, 1) := by decide +kernel
theorem dX10_count_187 : decode cX10_count 187 = .ok (.aload_n 0, 1) := by decide +kernel
theorem dX10_count_188 : decode cX10_count 188 = .ok (.getfield 86, 3) := by decide +kernel
theorem dX10_count_191 : decode cX10_count 191 = .ok (.iconst 2, 1) := by decide +kernel
theorem dX10_count_192 : decode cX10_count 192 = .ok (.iaload, 1) := by decide +kernel
theorem dX10_count_193 : decode cX10_count 193 = .ok (.ireturn, 1) := by decide +kernel
theorem dX10_count_194 : decode cX10_count 194 = .ok (.aload_n 0, 1) := by decide +kernel
theorem dX10_count_195 : decode cX10_count 195 = .ok (.getfield 86, 3) := by decide +kernel
theorem dX10_count_198 : decode cX10_count 198 = .ok (.iconst 3, 1) := by decide +kernel
theorem dX10_count_199 : decode cX10_count 199 = .ok (.iaload, 1) := by decide +kernel
theorem dX10_count_200 : decode cX10_count 200 = .ok (.ireturn, 1) := by decide +kernel
theorem dX10_count_201 : decode cX10_count 201 = .ok (.aload_n 0, 1) := by decide +kernel
theorem dX10_count_202 : decode cX10_count 202 = .ok (.getfield 86, 3) := by decide +kernel
theorem dX10_count_205 : decode cX10_count 205 = .ok (.iconst 5, 1) := by decide +kernel
theorem dX10_count_206 : decode cX10_count 206 = .ok (.iaload, 1) := by decide +kernel
theorem dX10_count_207 : decode cX10_count 207 = .ok (.ireturn, 1) := by decide +kernel
theorem dX10_count_208 : decode cX10_count 208 = .ok (.aload_n 0, 1) := by decide +kernel
theorem dX10_count_209 : decode cX10_count 209 = .ok (.getfield 86, 3) := by decide +kernel
theorem dX10_count_212 : decode cX10_count 212 = .ok (.bipush 6, 2) := by decide +kernel
theorem dX10_count_214 : decode cX10_count 214 = .ok (.iaload, 1) := by decide +kernel
theorem dX10_count_215 : decode cX10_count 215 = .ok (.ireturn, 1) := by decide +kernel
theorem dX10_count_216 : decode cX10_count 216 = .ok (.aload_n 0, 1) := by decide +kernel
theorem dX10_count_217 : decode cX10_count 217 = .ok (.getfield 10, 3) := by decide +kernel
theorem dX10_count_220 : decode cX10_count 220 = .ok (.getfield 222, 3) := by decide +kernel
theorem dX10_count_223 : decode cX10_count 223 = .ok (.ireturn, 1) := by decide +kernel
theorem dX10_count_224 : decode cX10_count 224 = .ok (.aload_n 0, 1) := by decide +kernel
theorem dX10_count_225 : decode cX10_count 225 = .ok (.getfield 10, 3) := by decide +kernel
theorem dX10_count_228 : decode cX10_count 228 = .ok (.getfield 293, 3) := by decide +kernel
theorem dX10_count_231 : decode cX10_count 231 = .ok (.ireturn, 1) := by decide +kernel
theorem dX10_count_232 : decode cX10_count 232 = .ok (.aload_n 0, 1) := by decide +kernel
theorem dX10_count_233 : decode cX10_count 233 = .ok (.getfield 10, 3) := by decide +kernel
theorem dX10_count_236 : decode cX10_count 236 = .ok (.getfield 297, 3) := by decide +kernel
theorem dX10_count_239 : decode cX10_count 239 = .ok (.ireturn, 1) := by decide +kernel
theorem dX10_count_240 : decode cX10_count 240 = .ok (.iconst (-1), 1) := by decide +kernel
theorem dX10_count_241 : decode cX10_count 241 = .ok (.ireturn, 1) := by decide +kernel
theorem dX10_status_0 : decode cX10_status 0 = .ok (.aload_n 0, 1) := by decide +kernel
theorem dX10_status_1 : decode cX10_status 1 = .ok (.getfield 300, 3) := by decide +kernel
theorem dX10_status_4 : decode cX10_status 4 = .ok (.ireturn, 1) := by decide +kernel
theorem dX10_refuse_0 : decode cX10_refuse 0 = .ok (.aload_n 0, 1) := by decide +kernel
theorem dX10_refuse_1 : decode cX10_refuse 1 = .ok (.iload_n 1, 1) := by decide +kernel
theorem dX10_refuse_2 : decode cX10_refuse 2 = .ok (.putfield 300, 3) := by decide +kernel
theorem dX10_refuse_5 : decode cX10_refuse 5 = .ok (.iload_n 1, 1) := by decide +kernel
theorem dX10_refuse_6 : decode cX10_refuse 6 = .ok (.ineg, 1) := by decide +kernel
theorem dX10_refuse_7 : decode cX10_refuse 7 = .ok (.ifCond .le 24, 3) := by decide +kernel
theorem dX10_refuse_10 : decode cX10_refuse 10 = .ok (.iload_n 1, 1) := by decide +kernel
theorem dX10_refuse_11 : decode cX10_refuse 11 = .ok (.ineg, 1) := by decide +kernel
theorem dX10_refuse_12 : decode cX10_refuse 12 = .ok (.aload_n 0, 1) := by decide +kernel
theorem dX10_refuse_13 : decode cX10_refuse 13 = .ok (.getfield 86, 3) := by decide +kernel
theorem dX10_refuse_16 : decode cX10_refuse 16 = .ok (.arraylength, 1) := by decide +kernel
theorem dX10_refuse_17 : decode cX10_refuse 17 = .ok (.if_icmp .ge 14, 3) := by decide +kernel
theorem dX10_refuse_20 : decode cX10_refuse 20 = .ok (.aload_n 0, 1) := by decide +kernel
theorem dX10_refuse_21 : decode cX10_refuse 21 = .ok (.getfield 86, 3) := by decide +kernel
theorem dX10_refuse_24 : decode cX10_refuse 24 = .ok (.iload_n 1, 1) := by decide +kernel
theorem dX10_refuse_25 : decode cX10_refuse 25 = .ok (.ineg, 1) := by decide +kernel
theorem dX10_refuse_26 : decode cX10_refuse 26 = .ok (.dup2, 1) := by decide +kernel
theorem dX10_refuse_27 : decode cX10_refuse 27 = .ok (.iaload, 1) := by decide +kernel
theorem dX10_refuse_28 : decode cX10_refuse 28 = .ok (.iconst 1, 1) := by decide +kernel
theorem dX10_refuse_29 : decode cX10_refuse 29 = .ok (.iadd, 1) := by decide +kernel
theorem dX10_refuse_30 : decode cX10_refuse 30 = .ok (.iastore, 1) := by decide +kernel
theorem dX10_refuse_31 : decode cX10_refuse 31 = .ok (.iload_n 1, 1) := by decide +kernel
theorem dX10_refuse_32 : decode cX10_refuse 32 = .ok (.ireturn, 1) := by decide +kernel
theorem dX10_accept_0 : decode cX10_accept 0 = .ok (.aload_n 0, 1) := by decide +kernel
theorem dX10_accept_1 : decode cX10_accept 1 = .ok (.iconst 0, 1) := by decide +kernel
theorem dX10_accept_2 : decode cX10_accept 2 = .ok (.putfield 300, 3) := by decide +kernel
theorem dX10_accept_5 : decode cX10_accept 5 = .ok (.iload_n 1, 1) := by decide +kernel
theorem dX10_accept_6 : decode cX10_accept 6 = .ok (.ireturn, 1) := by decide +kernel
theorem dX10_answer_0 : decode cX10_answer 0 = .ok (.iload_n 1, 1) := by decide +kernel
theorem dX10_answer_1 : decode cX10_answer 1 = .ok (.ifCond .ge 11, 3) := by decide +kernel
theorem dX10_answer_4 : decode cX10_answer 4 = .ok (.aload_n 0, 1) := by decide +kernel
theorem dX10_answer_5 : decode cX10_answer 5 = .ok (.iload_n 1, 1) := by decide +kernel
theorem dX10_answer_6 : decode cX10_answer 6 = .ok (.invokevirtual 90, 3) := by decide +kernel
theorem dX10_answer_9 : decode cX10_answer 9 = .ok (.goto 8, 3) := by decide +kernel
theorem dX10_answer_12 : decode cX10_answer 12 = .ok (.aload_n 0, 1) := by decide +kernel
theorem dX10_answer_13 : decode cX10_answer 13 = .ok (.iload_n 1, 1) := by decide +kernel
theorem dX10_answer_14 : decode cX10_answer 14 = .ok (.invokevirtual 104, 3) := by decide +kernel
theorem dX10_answer_17 : decode cX10_answer 17 = .ok (.ireturn, 1) := by decide +kernel
theorem dX10_termCanBe_0 : decode cX10_termCanBe 0 = .ok (.iload_n 1, 1) := by decide +kernel
theorem dX10_termCanBe_1 : decode cX10_termCanBe 1 = .ok (.tableswitch 88 0 2 #[27, 43, 72], 27) := by decide +kernel
theorem dX10_termCanBe_28 : decode cX10_termCanBe 28 = .ok (.iload_n 2, 1) := by decide +kernel
theorem dX10_termCanBe_29 : decode cX10_termCanBe 29 = .ok (.ifCond .lt 13, 3) := by decide +kernel
theorem dX10_termCanBe_32 : decode cX10_termCanBe 32 = .ok (.iload_n 2, 1) := by decide +kernel
theorem dX10_termCanBe_33 : decode cX10_termCanBe 33 = .ok (.bipush 71, 2) := by decide +kernel
theorem dX10_termCanBe_35 : decode cX10_termCanBe 35 = .ok (.if_icmp .gt 7, 3) := by decide +kernel
theorem dX10_termCanBe_38 : decode cX10_termCanBe 38 = .ok (.iconst 1, 1) := by decide +kernel
