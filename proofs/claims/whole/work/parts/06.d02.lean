theorem dX6_read_45 : decode cX6_read 45 = .ok (.istore 4, 2) := by decide +kernel
theorem dX6_read_47 : decode cX6_read 47 = .ok (.iconst 0, 1) := by decide +kernel
theorem dX6_read_48 : decode cX6_read 48 = .ok (.istore 5, 2) := by decide +kernel
theorem dX6_read_50 : decode cX6_read 50 = .ok (.iload 4, 2) := by decide +kernel
theorem dX6_read_52 : decode cX6_read 52 = .ok (.ifCond .eq 58, 3) := by decide +kernel
theorem dX6_read_55 : decode cX6_read 55 = .ok (.iload 5, 2) := by decide +kernel
theorem dX6_read_57 : decode cX6_read 57 = .ok (.bipush 12, 2) := by decide +kernel
theorem dX6_read_59 : decode cX6_read 59 = .ok (.if_icmp .gt 51, 3) := by decide +kernel
theorem dX6_read_62 : decode cX6_read 62 = .ok (.iload 5, 2) := by decide +kernel
theorem dX6_read_64 : decode cX6_read 64 = .ok (.bipush 12, 2) := by decide +kernel
theorem dX6_read_66 : decode cX6_read 66 = .ok (.if_icmp .ne 10, 3) := by decide +kernel
theorem dX6_read_69 : decode cX6_read 69 = .ok (.aload_n 0, 1) := by decide +kernel
theorem dX6_read_70 : decode cX6_read 70 = .ok (.invokevirtual 60, 3) := by decide +kernel
theorem dX6_read_73 : decode cX6_read 73 = .ok (.goto 7, 3) := by decide +kernel
theorem dX6_read_76 : decode cX6_read 76 = .ok (.aload_n 0, 1) := by decide +kernel
theorem dX6_read_77 : decode cX6_read 77 = .ok (.invokevirtual 63, 3) := by decide +kernel
theorem dX6_read_80 : decode cX6_read 80 = .ok (.aload_n 0, 1) := by decide +kernel
theorem dX6_read_81 : decode cX6_read 81 = .ok (.sipush 159, 3) := by decide +kernel
theorem dX6_read_84 : decode cX6_read 84 = .ok (.invokevirtual 66, 3) := by decide +kernel
theorem dX6_read_87 : decode cX6_read 87 = .ok (.istore 4, 2) := by decide +kernel
theorem dX6_read_89 : decode cX6_read 89 = .ok (.iload 4, 2) := by decide +kernel
theorem dX6_read_91 : decode cX6_read 91 = .ok (.ifCond .eq 13, 3) := by decide +kernel
theorem dX6_read_94 : decode cX6_read 94 = .ok (.aload_n 0, 1) := by decide +kernel
theorem dX6_read_95 : decode cX6_read 95 = .ok (.dup, 1) := by decide +kernel
theorem dX6_read_96 : decode cX6_read 96 = .ok (.getfield 47, 3) := by decide +kernel
theorem dX6_read_99 : decode cX6_read 99 = .ok (.iconst 1, 1) := by decide +kernel
theorem dX6_read_100 : decode cX6_read 100 = .ok (.iadd, 1) := by decide +kernel
theorem dX6_read_101 : decode cX6_read 101 = .ok (.putfield 47, 3) := by decide +kernel
theorem dX6_read_104 : decode cX6_read 104 = .ok (.iinc 5 1, 3) := by decide +kernel
theorem dX6_read_107 : decode cX6_read 107 = .ok (.goto (-57), 3) := by decide +kernel
theorem dX6_read_110 : decode cX6_read 110 = .ok (.aload_n 0, 1) := by decide +kernel
theorem dX6_read_111 : decode cX6_read 111 = .ok (.bipush 32, 2) := by decide +kernel
theorem dX6_read_113 : decode cX6_read 113 = .ok (.invokevirtual 66, 3) := by decide +kernel
theorem dX6_read_116 : decode cX6_read 116 = .ok (.ifCond .ne 7, 3) := by decide +kernel
theorem dX6_read_119 : decode cX6_read 119 = .ok (.aload_n 0, 1) := by decide +kernel
theorem dX6_read_120 : decode cX6_read 120 = .ok (.invokevirtual 60, 3) := by decide +kernel
theorem dX6_read_123 : decode cX6_read 123 = .ok (.aload_n 0, 1) := by decide +kernel
theorem dX6_read_124 : decode cX6_read 124 = .ok (.getfield 51, 3) := by decide +kernel
theorem dX6_read_127 : decode cX6_read 127 = .ok (.ireturn, 1) := by decide +kernel
theorem dX6_cut_0 : decode cX6_cut 0 = .ok (.aload_n 0, 1) := by decide +kernel
theorem dX6_cut_1 : decode cX6_cut 1 = .ok (.iconst 0, 1) := by decide +kernel
theorem dX6_cut_2 : decode cX6_cut 2 = .ok (.putfield 70, 3) := by decide +kernel
theorem dX6_cut_5 : decode cX6_cut 5 = .ok (.iconst 0, 1) := by decide +kernel
theorem dX6_cut_6 : decode cX6_cut 6 = .ok (.istore_n 3, 1) := by decide +kernel
theorem dX6_cut_7 : decode cX6_cut 7 = .ok (.iload_n 3, 1) := by decide +kernel
theorem dX6_cut_8 : decode cX6_cut 8 = .ok (.iload_n 2, 1) := by decide +kernel
theorem dX6_cut_9 : decode cX6_cut 9 = .ok (.if_icmp .ge 161, 3) := by decide +kernel
theorem dX6_cut_12 : decode cX6_cut 12 = .ok (.iload_n 3, 1) := by decide +kernel
theorem dX6_cut_13 : decode cX6_cut 13 = .ok (.iconst 1, 1) := by decide +kernel
theorem dX6_cut_14 : decode cX6_cut 14 = .ok (.iadd, 1) := by decide +kernel
theorem dX6_cut_15 : decode cX6_cut 15 = .ok (.istore 4, 2) := by decide +kernel
theorem dX6_cut_17 : decode cX6_cut 17 = .ok (.aload_n 1, 1) := by decide +kernel
theorem dX6_cut_18 : decode cX6_cut 18 = .ok (.iload_n 3, 1) := by decide +kernel
theorem dX6_cut_19 : decode cX6_cut 19 = .ok (.invokevirtual 73, 3) := by decide +kernel
theorem dX6_cut_22 : decode cX6_cut 22 = .ok (.istore 5, 2) := by decide +kernel
theorem dX6_cut_24 : decode cX6_cut 24 = .ok (.iload 5, 2) := by decide +kernel
theorem dX6_cut_26 : decode cX6_cut 26 = .ok (.invokestatic 79, 3) := by decide +kernel
theorem dX6_cut_29 : decode cX6_cut 29 = .ok (.ifCond .eq 43, 3) := by decide +kernel
theorem dX6_cut_32 : decode cX6_cut 32 = .ok (.iload 4, 2) := by decide +kernel
theorem dX6_cut_34 : decode cX6_cut 34 = .ok (.iload_n 2, 1) := by decide +kernel
theorem dX6_cut_35 : decode cX6_cut 35 = .ok (.if_icmp .ge 21, 3) := by decide +kernel
theorem dX6_cut_38 : decode cX6_cut 38 = .ok (.aload_n 1, 1) := by decide +kernel
theorem dX6_cut_39 : decode cX6_cut 39 = .ok (.iload 4, 2) := by decide +kernel
theorem dX6_cut_41 : decode cX6_cut 41 = .ok (.invokevirtual 73, 3) := by decide +kernel
theorem dX6_cut_44 : decode cX6_cut 44 = .ok (.invokestatic 79, 3) := by decide +kernel
theorem dX6_cut_47 : decode cX6_cut 47 = .ok (.ifCond .eq 9, 3) := by decide +kernel
theorem dX6_cut_50 : decode cX6_cut 50 = .ok (.iinc 4 1, 3) := by decide +kernel
theorem dX6_cut_53 : decode cX6_cut 53 = .ok (.goto (-21), 3) := by decide +kernel
theorem dX6_cut_56 : decode cX6_cut 56 = .ok (.aload_n 0, 1) := by decide +kernel
theorem dX6_cut_57 : decode cX6_cut 57 = .ok (.iload_n 3, 1) := by decide +kernel
theorem dX6_cut_58 : decode cX6_cut 58 = .ok (.aload_n 1, 1) := by decide +kernel
theorem dX6_cut_59 : decode cX6_cut 59 = .ok (.iload_n 3, 1) := by decide +kernel
theorem dX6_cut_60 : decode cX6_cut 60 = .ok (.iload 4, 2) := by decide +kernel
theorem dX6_cut_62 : decode cX6_cut 62 = .ok (.invokestatic 82, 3) := by decide +kernel
theorem dX6_cut_65 : decode cX6_cut 65 = .ok (.iconst 0, 1) := by decide +kernel
theorem dX6_cut_66 : decode cX6_cut 66 = .ok (.invokevirtual 86, 3) := by decide +kernel
theorem dX6_cut_69 : decode cX6_cut 69 = .ok (.goto 95, 3) := by decide +kernel
theorem dX6_cut_72 : decode cX6_cut 72 = .ok (.iload 5, 2) := by decide +kernel
theorem dX6_cut_74 : decode cX6_cut 74 = .ok (.invokestatic 90, 3) := by decide +kernel
theorem dX6_cut_77 : decode cX6_cut 77 = .ok (.ifCond .eq 69, 3) := by decide +kernel
theorem dX6_cut_80 : decode cX6_cut 80 = .ok (.iload 5, 2) := by decide +kernel
theorem dX6_cut_82 : decode cX6_cut 82 = .ok (.bipush 48, 2) := by decide +kernel
theorem dX6_cut_84 : decode cX6_cut 84 = .ok (.isub, 1) := by decide +kernel
theorem dX6_cut_85 : decode cX6_cut 85 = .ok (.istore 6, 2) := by decide +kernel
theorem dX6_cut_87 : decode cX6_cut 87 = .ok (.iload 4, 2) := by decide +kernel
theorem dX6_cut_89 : decode cX6_cut 89 = .ok (.iload_n 2, 1) := by decide +kernel
theorem dX6_cut_90 : decode cX6_cut 90 = .ok (.if_icmp .ge 44, 3) := by decide +kernel
theorem dX6_cut_93 : decode cX6_cut 93 = .ok (.aload_n 1, 1) := by decide +kernel
theorem dX6_cut_94 : decode cX6_cut 94 = .ok (.iload 4, 2) := by decide +kernel
theorem dX6_cut_96 : decode cX6_cut 96 = .ok (.invokevirtual 73, 3) := by decide +kernel
theorem dX6_cut_99 : decode cX6_cut 99 = .ok (.invokestatic 90, 3) := by decide +kernel
theorem dX6_cut_102 : decode cX6_cut 102 = .ok (.ifCond .eq 32, 3) := by decide +kernel
theorem dX6_cut_105 : decode cX6_cut 105 = .ok (.sipush 1001, 3) := by decide +kernel
theorem dX6_cut_108 : decode cX6_cut 108 = .ok (.iload 6, 2) := by decide +kernel
theorem dX6_cut_110 : decode cX6_cut 110 = .ok (.bipush 10, 2) := by decide +kernel
theorem dX6_cut_112 : decode cX6_cut 112 = .ok (.imul, 1) := by decide +kernel
theorem dX6_cut_113 : decode cX6_cut 113 = .ok (.aload_n 1, 1) := by decide +kernel
theorem dX6_cut_114 : decode cX6_cut 114 = .ok (.iload 4, 2) := by decide +kernel
theorem dX6_cut_116 : decode cX6_cut 116 = .ok (.invokevirtual 73, 3) := by decide +kernel
theorem dX6_cut_119 : decode cX6_cut 119 = .ok (.iadd, 1) := by decide +kernel
theorem dX6_cut_120 : decode cX6_cut 120 = .ok (.bipush 48, 2) := by decide +kernel
theorem dX6_cut_122 : decode cX6_cut 122 = .ok (.isub, 1) := by decide +kernel
theorem dX6_cut_123 : decode cX6_cut 123 = .ok (.invokestatic 30, 3) := by decide +kernel
theorem dX6_cut_126 : decode cX6_cut 126 = .ok (.istore 6, 2) := by decide +kernel
theorem dX6_cut_128 : decode cX6_cut 128 = .ok (.iinc 4 1, 3) := by decide +kernel
theorem dX6_cut_131 : decode cX6_cut 131 = .ok (.goto (-44), 3) := by decide +kernel
theorem dX6_cut_134 : decode cX6_cut 134 = .ok (.aload_n 0, 1) := by decide +kernel
theorem dX6_cut_135 : decode cX6_cut 135 = .ok (.iload_n 3, 1) := by decide +kernel
theorem dX6_cut_136 : decode cX6_cut 136 = .ok (.bipush 31, 2) := by decide +kernel
theorem dX6_cut_138 : decode cX6_cut 138 = .ok (.iload 6, 2) := by decide +kernel
theorem dX6_cut_140 : decode cX6_cut 140 = .ok (.invokevirtual 86, 3) := by decide +kernel
theorem dX6_cut_143 : decode cX6_cut 143 = .ok (.goto 21, 3) := by decide +kernel
theorem dX6_cut_146 : decode cX6_cut 146 = .ok (.iload 5, 2) := by decide +kernel
theorem dX6_cut_148 : decode cX6_cut 148 = .ok (.bipush 32, 2) := by decide +kernel
theorem dX6_cut_150 : decode cX6_cut 150 = .ok (.if_icmp .eq 14, 3) := by decide +kernel
theorem dX6_cut_153 : decode cX6_cut 153 = .ok (.aload_n 0, 1) := by decide +kernel
theorem dX6_cut_154 : decode cX6_cut 154 = .ok (.iload_n 3, 1) := by decide +kernel
theorem dX6_cut_155 : decode cX6_cut 155 = .ok (.bipush 100, 2) := by decide +kernel
theorem dX6_cut_157 : decode cX6_cut 157 = .ok (.iload 5, 2) := by decide +kernel
theorem dX6_cut_159 : decode cX6_cut 159 = .ok (.iadd, 1) := by decide +kernel
theorem dX6_cut_160 : decode cX6_cut 160 = .ok (.iconst 0, 1) := by decide +kernel
theorem dX6_cut_161 : decode cX6_cut 161 = .ok (.invokevirtual 86, 3) := by decide +kernel
theorem dX6_cut_164 : decode cX6_cut 164 = .ok (.iload 4, 2) := by decide +kernel
theorem dX6_cut_166 : decode cX6_cut 166 = .ok (.istore_n 3, 1) := by decide +kernel
theorem dX6_cut_167 : decode cX6_cut 167 = .ok (.goto (-160), 3) := by decide +kernel
theorem dX6_cut_170 : decode cX6_cut 170 = .ok (.aload_n 0, 1) := by decide +kernel
theorem dX6_cut_171 : decode cX6_cut 171 = .ok (.iload_n 2, 1) := by decide +kernel
theorem dX6_cut_172 : decode cX6_cut 172 = .ok (.bipush 32, 2) := by decide +kernel
theorem dX6_cut_174 : decode cX6_cut 174 = .ok (.iconst 0, 1) := by decide +kernel
theorem dX6_cut_175 : decode cX6_cut 175 = .ok (.invokevirtual 86, 3) := by decide +kernel
theorem dX6_cut_178 : decode cX6_cut 178 = .ok (.return_, 1) := by decide +kernel
theorem dX6_note_0 : decode cX6_note 0 = .ok (.aload_n 0, 1) := by decide +kernel
theorem dX6_note_1 : decode cX6_note 1 = .ok (.getfield 70, 3) := by decide +kernel
theorem dX6_note_4 : decode cX6_note 4 = .ok (.aload_n 0, 1) := by decide +kernel
theorem dX6_note_5 : decode cX6_note 5 = .ok (.getfield 9, 3) := by decide +kernel
theorem dX6_note_8 : decode cX6_note 8 = .ok (.arraylength, 1) := by decide +kernel
theorem dX6_note_9 : decode cX6_note 9 = .ok (.if_icmp .ge 43, 3) := by decide +kernel
theorem dX6_note_12 : decode cX6_note 12 = .ok (.aload_n 0, 1) := by decide +kernel
theorem dX6_note_13 : decode cX6_note 13 = .ok (.getfield 15, 3) := by decide +kernel
theorem dX6_note_16 : decode cX6_note 16 = .ok (.aload_n 0, 1) := by decide +kernel
theorem dX6_note_17 : decode cX6_note 17 = .ok (.getfield 70, 3) := by decide +kernel
theorem dX6_note_20 : decode cX6_note 20 = .ok (.iload_n 1, 1) := by decide +kernel
theorem dX6_note_21 : decode cX6_note 21 = .ok (.iastore, 1) := by decide +kernel
theorem dX6_note_22 : decode cX6_note 22 = .ok (.aload_n 0, 1) := by decide +kernel
theorem dX6_note_23 : decode cX6_note 23 = .ok (.getfield 9, 3) := by decide +kernel
theorem dX6_note_26 : decode cX6_note 26 = .ok (.aload_n 0, 1) := by decide +kernel
theorem dX6_note_27 : decode cX6_note 27 = .ok (.getfield 70, 3) := by decide +kernel
theorem dX6_note_30 : decode cX6_note 30 = .ok (.iload_n 2, 1) := by decide +kernel
theorem dX6_note_31 : decode cX6_note 31 = .ok (.iastore, 1) := by decide +kernel
theorem dX6_note_32 : decode cX6_note 32 = .ok (.aload_n 0, 1) := by decide +kernel
theorem dX6_note_33 : decode cX6_note 33 = .ok (.getfield 18, 3) := by decide +kernel
theorem dX6_note_36 : decode cX6_note 36 = .ok (.aload_n 0, 1) := by decide +kernel
theorem dX6_note_37 : decode cX6_note 37 = .ok (.getfield 70, 3) := by decide +kernel
theorem dX6_note_40 : decode cX6_note 40 = .ok (.iload_n 3, 1) := by decide +kernel
theorem dX6_note_41 : decode cX6_note 41 = .ok (.iastore, 1) := by decide +kernel
theorem dX6_note_42 : decode cX6_note 42 = .ok (.aload_n 0, 1) := by decide +kernel
theorem dX6_note_43 : decode cX6_note 43 = .ok (.dup, 1) := by decide +kernel
theorem dX6_note_44 : decode cX6_note 44 = .ok (.getfield 70, 3) := by decide +kernel
theorem dX6_note_47 : decode cX6_note 47 = .ok (.iconst 1, 1) := by decide +kernel
theorem dX6_note_48 : decode cX6_note 48 = .ok (.iadd, 1) := by decide +kernel
theorem dX6_note_49 : decode cX6_note 49 = .ok (.putfield 70, 3) := by decide +kernel
theorem dX6_note_52 : decode cX6_note 52 = .ok (.return_, 1) := by decide +kernel
theorem dX6_isLetter_0 : decode cX6_isLetter 0 = .ok (.iload_n 0, 1) := by decide +kernel
theorem dX6_isLetter_1 : decode cX6_isLetter 1 = .ok (.bipush 97, 2) := by decide +kernel
theorem dX6_isLetter_3 : decode cX6_isLetter 3 = .ok (.if_icmp .lt 13, 3) := by decide +kernel
theorem dX6_isLetter_6 : decode cX6_isLetter 6 = .ok (.iload_n 0, 1) := by decide +kernel
theorem dX6_isLetter_7 : decode cX6_isLetter 7 = .ok (.bipush 122, 2) := by decide +kernel
theorem dX6_isLetter_9 : decode cX6_isLetter 9 = .ok (.if_icmp .gt 7, 3) := by decide +kernel
theorem dX6_isLetter_12 : decode cX6_isLetter 12 = .ok (.iconst 1, 1) := by decide +kernel
theorem dX6_isLetter_13 : decode cX6_isLetter 13 = .ok (.goto 4, 3) := by decide +kernel
theorem dX6_isLetter_16 : decode cX6_isLetter 16 = .ok (.iconst 0, 1) := by decide +kernel
theorem dX6_isLetter_17 : decode cX6_isLetter 17 = .ok (.ireturn, 1) := by decide +kernel
theorem dX6_isDigit_0 : decode cX6_isDigit 0 = .ok (.iload_n 0, 1) := by decide +kernel
theorem dX6_isDigit_1 : decode cX6_isDigit 1 = .ok (.bipush 48, 2) := by decide +kernel
theorem dX6_isDigit_3 : decode cX6_isDigit 3 = .ok (.if_icmp .lt 13, 3) := by decide +kernel
theorem dX6_isDigit_6 : decode cX6_isDigit 6 = .ok (.iload_n 0, 1) := by decide +kernel
theorem dX6_isDigit_7 : decode cX6_isDigit 7 = .ok (.bipush 57, 2) := by decide +kernel
theorem dX6_isDigit_9 : decode cX6_isDigit 9 = .ok (.if_icmp .gt 7, 3) := by decide +kernel
theorem dX6_isDigit_12 : decode cX6_isDigit 12 = .ok (.iconst 1, 1) := by decide +kernel
theorem dX6_isDigit_13 : decode cX6_isDigit 13 = .ok (.goto 4, 3) := by decide +kernel
theorem dX6_isDigit_16 : decode cX6_isDigit 16 = .ok (.iconst 0, 1) := by decide +kernel
theorem dX6_isDigit_17 : decode cX6_isDigit 17 = .ok (.ireturn, 1) := by decide +kernel
theorem dX6_wordAt_0 : decode cX6_wordAt 0 = .ok (.iconst 0, 1) := by decide +kernel
theorem dX6_wordAt_1 : decode cX6_wordAt 1 = .ok (.istore_n 3, 1) := by decide +kernel
theorem dX6_wordAt_2 : decode cX6_wordAt 2 = .ok (.iload_n 1, 1) := by decide +kernel
theorem dX6_wordAt_3 : decode cX6_wordAt 3 = .ok (.istore 4, 2) := by decide +kernel
theorem dX6_wordAt_5 : decode cX6_wordAt 5 = .ok (.iconst 1, 1) := by decide +kernel
theorem dX6_wordAt_6 : decode cX6_wordAt 6 = .ok (.istore 5, 2) := by decide +kernel
theorem dX6_wordAt_8 : decode cX6_wordAt 8 = .ok (.iconst 0, 1) := by decide +kernel
theorem dX6_wordAt_9 : decode cX6_wordAt 9 = .ok (.istore 6, 2) := by decide +kernel
theorem dX6_wordAt_11 : decode cX6_wordAt 11 = .ok (.iload 6, 2) := by decide +kernel
theorem dX6_wordAt_13 : decode cX6_wordAt 13 = .ok (.ldc 93, 2) := by decide +kernel
theorem dX6_wordAt_15 : decode cX6_wordAt 15 = .ok (.invokevirtual 95, 3) := by decide +kernel
theorem dX6_wordAt_18 : decode cX6_wordAt 18 = .ok (.if_icmp .ge 82, 3) := by decide +kernel
theorem dX6_wordAt_21 : decode cX6_wordAt 21 = .ok (.ldc 93, 2) := by decide +kernel
theorem dX6_wordAt_23 : decode cX6_wordAt 23 = .ok (.iload 6, 2) := by decide +kernel
theorem dX6_wordAt_25 : decode cX6_wordAt 25 = .ok (.invokevirtual 101, 3) := by decide +kernel
theorem dX6_wordAt_28 : decode cX6_wordAt 28 = .ok (.istore 7, 2) := by decide +kernel
theorem dX6_wordAt_30 : decode cX6_wordAt 30 = .ok (.iload 7, 2) := by decide +kernel
theorem dX6_wordAt_32 : decode cX6_wordAt 32 = .ok (.bipush 32, 2) := by decide +kernel
theorem dX6_wordAt_34 : decode cX6_wordAt 34 = .ok (.if_icmp .eq 38, 3) := by decide +kernel
theorem dX6_wordAt_37 : decode cX6_wordAt 37 = .ok (.iload 5, 2) := by decide +kernel
theorem dX6_wordAt_39 : decode cX6_wordAt 39 = .ok (.ifCond .eq 24, 3) := by decide +kernel
theorem dX6_wordAt_42 : decode cX6_wordAt 42 = .ok (.iload 4, 2) := by decide +kernel
theorem dX6_wordAt_44 : decode cX6_wordAt 44 = .ok (.iload_n 2, 1) := by decide +kernel
theorem dX6_wordAt_45 : decode cX6_wordAt 45 = .ok (.if_icmp .ge 18, 3) := by decide +kernel
theorem dX6_wordAt_48 : decode cX6_wordAt 48 = .ok (.aload_n 0, 1) := by decide +kernel
theorem dX6_wordAt_49 : decode cX6_wordAt 49 = .ok (.iload 4, 2) := by decide +kernel
theorem dX6_wordAt_51 : decode cX6_wordAt 51 = .ok (.invokevirtual 73, 3) := by decide +kernel
theorem dX6_wordAt_54 : decode cX6_wordAt 54 = .ok (.iload 7, 2) := by decide +kernel
theorem dX6_wordAt_56 : decode cX6_wordAt 56 = .ok (.if_icmp .ne 7, 3) := by decide +kernel
theorem dX6_wordAt_59 : decode cX6_wordAt 59 = .ok (.iconst 1, 1) := by decide +kernel
theorem dX6_wordAt_60 : decode cX6_wordAt 60 = .ok (.goto 4, 3) := by decide +kernel
theorem dX6_wordAt_63 : decode cX6_wordAt 63 = .ok (.iconst 0, 1) := by decide +kernel
theorem dX6_wordAt_64 : decode cX6_wordAt 64 = .ok (.istore 5, 2) := by decide +kernel
theorem dX6_wordAt_66 : decode cX6_wordAt 66 = .ok (.iinc 4 1, 3) := by decide +kernel
theorem dX6_wordAt_69 : decode cX6_wordAt 69 = .ok (.goto 25, 3) := by decide +kernel
theorem dX6_wordAt_72 : decode cX6_wordAt 72 = .ok (.iload 5, 2) := by decide +kernel
theorem dX6_wordAt_74 : decode cX6_wordAt 74 = .ok (.ifCond .eq 11, 3) := by decide +kernel
theorem dX6_wordAt_77 : decode cX6_wordAt 77 = .ok (.iload 4, 2) := by decide +kernel
theorem dX6_wordAt_79 : decode cX6_wordAt 79 = .ok (.iload_n 2, 1) := by decide +kernel
theorem dX6_wordAt_80 : decode cX6_wordAt 80 = .ok (.if_icmp .ne 5, 3) := by decide +kernel
theorem dX6_wordAt_83 : decode cX6_wordAt 83 = .ok (.iload_n 3, 1) := by decide +kernel
theorem dX6_wordAt_84 : decode cX6_wordAt 84 = .ok (.ireturn, 1) := by decide +kernel
theorem dX6_wordAt_85 : decode cX6_wordAt 85 = .ok (.iinc 3 1, 3) := by decide +kernel
theorem dX6_wordAt_88 : decode cX6_wordAt 88 = .ok (.iload_n 1, 1) := by decide +kernel
theorem dX6_wordAt_89 : decode cX6_wordAt 89 = .ok (.istore 4, 2) := by decide +kernel
theorem dX6_wordAt_91 : decode cX6_wordAt 91 = .ok (.iconst 1, 1) := by decide +kernel
theorem dX6_wordAt_92 : decode cX6_wordAt 92 = .ok (.istore 5, 2) := by decide +kernel
theorem dX6_wordAt_94 : decode cX6_wordAt 94 = .ok (.iinc 6 1, 3) := by decide +kernel
theorem dX6_wordAt_97 : decode cX6_wordAt 97 = .ok (.goto (-86), 3) := by decide +kernel
theorem dX6_wordAt_100 : decode cX6_wordAt 100 = .ok (.bipush 30, 2) := by decide +kernel
theorem dX6_wordAt_102 : decode cX6_wordAt 102 = .ok (.ireturn, 1) := by decide +kernel
theorem dX6_stands_0 : decode cX6_stands 0 = .ok (.aload_n 0, 1) := by decide +kernel
theorem dX6_stands_1 : decode cX6_stands 1 = .ok (.getfield 51, 3) := by decide +kernel
theorem dX6_stands_4 : decode cX6_stands 4 = .ok (.iconst (-1), 1) := by decide +kernel
theorem dX6_stands_5 : decode cX6_stands 5 = .ok (.if_icmp .ne 31, 3) := by decide +kernel
theorem dX6_stands_8 : decode cX6_stands 8 = .ok (.aload_n 0, 1) := by decide +kernel
theorem dX6_stands_9 : decode cX6_stands 9 = .ok (.getfield 47, 3) := by decide +kernel
theorem dX6_stands_12 : decode cX6_stands 12 = .ok (.aload_n 0, 1) := by decide +kernel
theorem dX6_stands_13 : decode cX6_stands 13 = .ok (.getfield 70, 3) := by decide +kernel
theorem dX6_stands_16 : decode cX6_stands 16 = .ok (.if_icmp .ge 20, 3) := by decide +kernel
theorem dX6_stands_19 : decode cX6_stands 19 = .ok (.aload_n 0, 1) := by decide +kernel
theorem dX6_stands_20 : decode cX6_stands 20 = .ok (.getfield 9, 3) := by decide +kernel
theorem dX6_stands_23 : decode cX6_stands 23 = .ok (.aload_n 0, 1) := by decide +kernel
theorem dX6_stands_24 : decode cX6_stands 24 = .ok (.getfield 47, 3) := by decide +kernel
theorem dX6_stands_27 : decode cX6_stands 27 = .ok (.iaload, 1) := by decide +kernel
theorem dX6_stands_28 : decode cX6_stands 28 = .ok (.iload_n 1, 1) := by decide +kernel
theorem dX6_stands_29 : decode cX6_stands 29 = .ok (.if_icmp .ne 7, 3) := by decide +kernel
theorem dX6_stands_32 : decode cX6_stands 32 = .ok (.iconst 1, 1) := by decide +kernel
theorem dX6_stands_33 : decode cX6_stands 33 = .ok (.goto 4, 3) := by decide +kernel
theorem dX6_stands_36 : decode cX6_stands 36 = .ok (.iconst 0, 1) := by decide +kernel
theorem dX6_stands_37 : decode cX6_stands 37 = .ok (.ireturn, 1) := by decide +kernel
theorem dX6_fail_0 : decode cX6_fail 0 = .ok (.aload_n 0, 1) := by decide +kernel
theorem dX6_fail_1 : decode cX6_fail 1 = .ok (.getfield 51, 3) := by decide +kernel
theorem dX6_fail_4 : decode cX6_fail 4 = .ok (.iconst (-1), 1) := by decide +kernel
theorem dX6_fail_5 : decode cX6_fail 5 = .ok (.if_icmp .ne 31, 3) := by decide +kernel
theorem dX6_fail_8 : decode cX6_fail 8 = .ok (.aload_n 0, 1) := by decide +kernel
theorem dX6_fail_9 : decode cX6_fail 9 = .ok (.aload_n 0, 1) := by decide +kernel
theorem dX6_fail_10 : decode cX6_fail 10 = .ok (.getfield 47, 3) := by decide +kernel
theorem dX6_fail_13 : decode cX6_fail 13 = .ok (.aload_n 0, 1) := by decide +kernel
theorem dX6_fail_14 : decode cX6_fail 14 = .ok (.getfield 70, 3) := by decide +kernel
theorem dX6_fail_17 : decode cX6_fail 17 = .ok (.if_icmp .ge 15, 3) := by decide +kernel
theorem dX6_fail_20 : decode cX6_fail 20 = .ok (.aload_n 0, 1) := by decide +kernel
theorem dX6_fail_21 : decode cX6_fail 21 = .ok (.getfield 15, 3) := by decide +kernel
theorem dX6_fail_24 : decode cX6_fail 24 = .ok (.aload_n 0, 1) := by decide +kernel
theorem dX6_fail_25 : decode cX6_fail 25 = .ok (.getfield 47, 3) := by decide +kernel
theorem dX6_fail_28 : decode cX6_fail 28 = .ok (.iaload, 1) := by decide +kernel
theorem dX6_fail_29 : decode cX6_fail 29 = .ok (.goto 4, 3) := by decide +kernel
theorem dX6_fail_32 : decode cX6_fail 32 = .ok (.iconst 0, 1) := by decide +kernel
theorem dX6_fail_33 : decode cX6_fail 33 = .ok (.putfield 51, 3) := by decide +kernel
theorem dX6_fail_36 : decode cX6_fail 36 = .ok (.return_, 1) := by decide +kernel
theorem dX6_take_0 : decode cX6_take 0 = .ok (.aload_n 0, 1) := by decide +kernel
theorem dX6_take_1 : decode cX6_take 1 = .ok (.iload_n 1, 1) := by decide +kernel
theorem dX6_take_2 : decode cX6_take 2 = .ok (.invokevirtual 66, 3) := by decide +kernel
theorem dX6_take_5 : decode cX6_take 5 = .ok (.ifCond .eq 16, 3) := by decide +kernel
theorem dX6_take_8 : decode cX6_take 8 = .ok (.aload_n 0, 1) := by decide +kernel
theorem dX6_take_9 : decode cX6_take 9 = .ok (.dup, 1) := by decide +kernel
theorem dX6_take_10 : decode cX6_take 10 = .ok (.getfield 47, 3) := by decide +kernel
theorem dX6_take_13 : decode cX6_take 13 = .ok (.iconst 1, 1) := by decide +kernel
theorem dX6_take_14 : decode cX6_take 14 = .ok (.iadd, 1) := by decide +kernel
theorem dX6_take_15 : decode cX6_take 15 = .ok (.putfield 47, 3) := by decide +kernel
theorem dX6_take_18 : decode cX6_take 18 = .ok (.goto 7, 3) := by decide +kernel
theorem dX6_take_21 : decode cX6_take 21 = .ok (.aload_n 0, 1) := by decide +kernel
theorem dX6_take_22 : decode cX6_take 22 = .ok (.invokevirtual 60, 3) := by decide +kernel
theorem dX6_take_25 : decode cX6_take 25 = .ok (.return_, 1) := by decide +kernel
theorem dX6_clause_0 : decode cX6_clause 0 = .ok (.aload_n 0, 1) := by decide +kernel
theorem dX6_clause_1 : decode cX6_clause 1 = .ok (.getfield 47, 3) := by decide +kernel
theorem dX6_clause_4 : decode cX6_clause 4 = .ok (.aload_n 0, 1) := by decide +kernel
theorem dX6_clause_5 : decode cX6_clause 5 = .ok (.getfield 70, 3) := by decide +kernel
theorem dX6_clause_8 : decode cX6_clause 8 = .ok (.if_icmp .ge 15, 3) := by decide +kernel
theorem dX6_clause_11 : decode cX6_clause 11 = .ok (.aload_n 0, 1) := by decide +kernel
theorem dX6_clause_12 : decode cX6_clause 12 = .ok (.getfield 9, 3) := by decide +kernel
theorem dX6_clause_15 : decode cX6_clause 15 = .ok (.aload_n 0, 1) := by decide +kernel
theorem dX6_clause_16 : decode cX6_clause 16 = .ok (.getfield 47, 3) := by decide +kernel
theorem dX6_clause_19 : decode cX6_clause 19 = .ok (.iaload, 1) := by decide +kernel
theorem dX6_clause_20 : decode cX6_clause 20 = .ok (.goto 5, 3) := by decide +kernel
theorem dX6_clause_23 : decode cX6_clause 23 = .ok (.bipush 32, 2) := by decide +kernel
theorem dX6_clause_25 : decode cX6_clause 25 = .ok (.istore_n 1, 1) := by decide +kernel
theorem dX6_clause_26 : decode cX6_clause 26 = .ok (.aload_n 0, 1) := by decide +kernel
theorem dX6_clause_27 : decode cX6_clause 27 = .ok (.getfield 43, 3) := by decide +kernel
theorem dX6_clause_30 : decode cX6_clause 30 = .ok (.ifCond .eq 8, 3) := by decide +kernel
theorem dX6_clause_33 : decode cX6_clause 33 = .ok (.bipush 13, 2) := by decide +kernel
theorem dX6_clause_35 : decode cX6_clause 35 = .ok (.goto 5, 3) := by decide +kernel
theorem dX6_clause_38 : decode cX6_clause 38 = .ok (.bipush 16, 2) := by decide +kernel
theorem dX6_clause_40 : decode cX6_clause 40 = .ok (.istore_n 2, 1) := by decide +kernel
theorem dX6_clause_41 : decode cX6_clause 41 = .ok (.aload_n 0, 1) := by decide +kernel
theorem dX6_clause_42 : decode cX6_clause 42 = .ok (.getfield 43, 3) := by decide +kernel
theorem dX6_clause_45 : decode cX6_clause 45 = .ok (.ifCond .eq 8, 3) := by decide +kernel
theorem dX6_clause_48 : decode cX6_clause 48 = .ok (.bipush 15, 2) := by decide +kernel
theorem dX6_clause_50 : decode cX6_clause 50 = .ok (.goto 5, 3) := by decide +kernel
theorem dX6_clause_53 : decode cX6_clause 53 = .ok (.bipush 19, 2) := by decide +kernel
theorem dX6_clause_55 : decode cX6_clause 55 = .ok (.istore_n 3, 1) := by decide +kernel
theorem dX6_clause_56 : decode cX6_clause 56 = .ok (.iload_n 1, 1) := by decide +kernel
theorem dX6_clause_57 : decode cX6_clause 57 = .ok (.iload_n 2, 1) := by decide +kernel
theorem dX6_clause_58 : decode cX6_clause 58 = .ok (.if_icmp .lt 8, 3) := by decide +kernel
theorem dX6_clause_61 : decode cX6_clause 61 = .ok (.iload_n 1, 1) := by decide +kernel
theorem dX6_clause_62 : decode cX6_clause 62 = .ok (.iload_n 3, 1) := by decide +kernel
theorem dX6_clause_63 : decode cX6_clause 63 = .ok (.if_icmp .le 8, 3) := by decide +kernel
theorem dX6_clause_66 : decode cX6_clause 66 = .ok (.aload_n 0, 1) := by decide +kernel
theorem dX6_clause_67 : decode cX6_clause 67 = .ok (.invokevirtual 60, 3) := by decide +kernel
theorem dX6_clause_70 : decode cX6_clause 70 = .ok (.return_, 1) := by decide +kernel
theorem dX6_clause_71 : decode cX6_clause 71 = .ok (.aload_n 0, 1) := by decide +kernel
theorem dX6_clause_72 : decode cX6_clause 72 = .ok (.getfield 26, 3) := by decide +kernel
theorem dX6_clause_75 : decode cX6_clause 75 = .ok (.iload_n 1, 1) := by decide +kernel
theorem dX6_clause_76 : decode cX6_clause 76 = .ok (.invokevirtual 105, 3) := by decide +kernel
theorem dX6_clause_79 : decode cX6_clause 79 = .ok (.aload_n 0, 1) := by decide +kernel
theorem dX6_clause_80 : decode cX6_clause 80 = .ok (.dup, 1) := by decide +kernel
theorem dX6_clause_81 : decode cX6_clause 81 = .ok (.getfield 47, 3) := by decide +kernel
theorem dX6_clause_84 : decode cX6_clause 84 = .ok (.iconst 1, 1) := by decide +kernel
theorem dX6_clause_85 : decode cX6_clause 85 = .ok (.iadd, 1) := by decide +kernel
theorem dX6_clause_86 : decode cX6_clause 86 = .ok (.putfield 47, 3) := by decide +kernel
theorem dX6_clause_89 : decode cX6_clause 89 = .ok (.iload_n 1, 1) := by decide +kernel
theorem dX6_clause_90 : decode cX6_clause 90 = .ok (.bipush 15, 2) := by decide +kernel
theorem dX6_clause_92 : decode cX6_clause 92 = .ok (.if_icmp .eq 8, 3) := by decide +kernel
theorem dX6_clause_95 : decode cX6_clause 95 = .ok (.aload_n 0, 1) := by decide +kernel
theorem dX6_clause_96 : decode cX6_clause 96 = .ok (.iconst 1, 1) := by decide +kernel
theorem dX6_clause_97 : decode cX6_clause 97 = .ok (.invokevirtual 109, 3) := by decide +kernel
theorem dX6_clause_100 : decode cX6_clause 100 = .ok (.iload_n 1, 1) := by decide +kernel
theorem dX6_clause_101 : decode cX6_clause 101 = .ok (.bipush 16, 2) := by decide +kernel
theorem dX6_clause_103 : decode cX6_clause 103 = .ok (.if_icmp .eq 9, 3) := by decide +kernel
theorem dX6_clause_106 : decode cX6_clause 106 = .ok (.iload_n 1, 1) := by decide +kernel
theorem dX6_clause_107 : decode cX6_clause 107 = .ok (.bipush 18, 2) := by decide +kernel
theorem dX6_clause_109 : decode cX6_clause 109 = .ok (.if_icmp .ne 25, 3) := by decide +kernel
theorem dX6_clause_112 : decode cX6_clause 112 = .ok (.aload_n 0, 1) := by decide +kernel
theorem dX6_clause_113 : decode cX6_clause 113 = .ok (.iload_n 1, 1) := by decide +kernel
theorem dX6_clause_114 : decode cX6_clause 114 = .ok (.bipush 16, 2) := by decide +kernel
theorem dX6_clause_116 : decode cX6_clause 116 = .ok (.if_icmp .ne 8, 3) := by decide +kernel
theorem dX6_clause_119 : decode cX6_clause 119 = .ok (.bipush 20, 2) := by decide +kernel
theorem dX6_clause_121 : decode cX6_clause 121 = .ok (.goto 5, 3) := by decide +kernel
theorem dX6_clause_124 : decode cX6_clause 124 = .ok (.bipush 21, 2) := by decide +kernel
theorem dX6_clause_126 : decode cX6_clause 126 = .ok (.invokevirtual 112, 3) := by decide +kernel
theorem dX6_clause_129 : decode cX6_clause 129 = .ok (.aload_n 0, 1) := by decide +kernel
theorem dX6_clause_130 : decode cX6_clause 130 = .ok (.iconst 2, 1) := by decide +kernel
theorem dX6_clause_131 : decode cX6_clause 131 = .ok (.invokevirtual 109, 3) := by decide +kernel
theorem dX6_clause_134 : decode cX6_clause 134 = .ok (.aload_n 0, 1) := by decide +kernel
theorem dX6_clause_135 : decode cX6_clause 135 = .ok (.getfield 43, 3) := by decide +kernel
theorem dX6_clause_138 : decode cX6_clause 138 = .ok (.ifCond .ne 26, 3) := by decide +kernel
theorem dX6_clause_141 : decode cX6_clause 141 = .ok (.aload_n 0, 1) := by decide +kernel
theorem dX6_clause_142 : decode cX6_clause 142 = .ok (.bipush 22, 2) := by decide +kernel
theorem dX6_clause_144 : decode cX6_clause 144 = .ok (.invokevirtual 66, 3) := by decide +kernel
theorem dX6_clause_147 : decode cX6_clause 147 = .ok (.ifCond .eq 17, 3) := by decide +kernel
theorem dX6_clause_150 : decode cX6_clause 150 = .ok (.aload_n 0, 1) := by decide +kernel
theorem dX6_clause_151 : decode cX6_clause 151 = .ok (.dup, 1) := by decide +kernel
theorem dX6_clause_152 : decode cX6_clause 152 = .ok (.getfield 47, 3) := by decide +kernel
theorem dX6_clause_155 : decode cX6_clause 155 = .ok (.iconst 1, 1) := by decide +kernel
theorem dX6_clause_156 : decode cX6_clause 156 = .ok (.iadd, 1) := by decide +kernel
theorem dX6_clause_157 : decode cX6_clause 157 = .ok (.putfield 47, 3) := by decide +kernel
theorem dX6_clause_160 : decode cX6_clause 160 = .ok (.aload_n 0, 1) := by decide +kernel
theorem dX6_clause_161 : decode cX6_clause 161 = .ok (.invokevirtual 115, 3) := by decide +kernel
theorem dX6_clause_164 : decode cX6_clause 164 = .ok (.aload_n 0, 1) := by decide +kernel
theorem dX6_clause_165 : decode cX6_clause 165 = .ok (.bipush 23, 2) := by decide +kernel
theorem dX6_clause_167 : decode cX6_clause 167 = .ok (.invokevirtual 66, 3) := by decide +kernel
theorem dX6_clause_170 : decode cX6_clause 170 = .ok (.ifCond .eq 41, 3) := by decide +kernel
theorem dX6_clause_173 : decode cX6_clause 173 = .ok (.aload_n 0, 1) := by decide +kernel
theorem dX6_clause_174 : decode cX6_clause 174 = .ok (.dup, 1) := by decide +kernel
theorem dX6_clause_175 : decode cX6_clause 175 = .ok (.getfield 47, 3) := by decide +kernel
theorem dX6_clause_178 : decode cX6_clause 178 = .ok (.iconst 1, 1) := by decide +kernel
theorem dX6_clause_179 : decode cX6_clause 179 = .ok (.iadd, 1) := by decide +kernel
theorem dX6_clause_180 : decode cX6_clause 180 = .ok (.putfield 47, 3) := by decide +kernel
theorem dX6_clause_183 : decode cX6_clause 183 = .ok (.aload_n 0, 1) := by decide +kernel
theorem dX6_clause_184 : decode cX6_clause 184 = .ok (.getfield 26, 3) := by decide +kernel
theorem dX6_clause_187 : decode cX6_clause 187 = .ok (.iconst 3, 1) := by decide +kernel
theorem dX6_clause_188 : decode cX6_clause 188 = .ok (.aload_n 0, 1) := by decide +kernel
theorem dX6_clause_189 : decode cX6_clause 189 = .ok (.getfield 26, 3) := by decide +kernel
theorem dX6_clause_192 : decode cX6_clause 192 = .ok (.getfield 118, 3) := by decide +kernel
theorem dX6_clause_195 : decode cX6_clause 195 = .ok (.invokevirtual 121, 3) := by decide +kernel
theorem dX6_clause_198 : decode cX6_clause 198 = .ok (.aload_n 0, 1) := by decide +kernel
theorem dX6_clause_199 : decode cX6_clause 199 = .ok (.invokevirtual 124, 3) := by decide +kernel
theorem dX6_clause_202 : decode cX6_clause 202 = .ok (.aload_n 0, 1) := by decide +kernel
theorem dX6_clause_203 : decode cX6_clause 203 = .ok (.getfield 26, 3) := by decide +kernel
theorem dX6_clause_206 : decode cX6_clause 206 = .ok (.iconst 0, 1) := by decide +kernel
theorem dX6_clause_207 : decode cX6_clause 207 = .ok (.iconst 0, 1) := by decide +kernel
theorem dX6_clause_208 : decode cX6_clause 208 = .ok (.invokevirtual 127, 3) := by decide +kernel
theorem dX6_clause_211 : decode cX6_clause 211 = .ok (.return_, 1) := by decide +kernel
theorem dX6_sumOf_0 : decode cX6_sumOf 0 = .ok (.aload_n 0, 1) := by decide +kernel
theorem dX6_sumOf_1 : decode cX6_sumOf 1 = .ok (.getfield 26, 3) := by decide +kernel
theorem dX6_sumOf_4 : decode cX6_sumOf 4 = .ok (.iload_n 1, 1) := by decide +kernel
theorem dX6_sumOf_5 : decode cX6_sumOf 5 = .ok (.aload_n 0, 1) := by decide +kernel
theorem dX6_sumOf_6 : decode cX6_sumOf 6 = .ok (.getfield 26, 3) := by decide +kernel
theorem dX6_sumOf_9 : decode cX6_sumOf 9 = .ok (.getfield 118, 3) := by decide +kernel
theorem dX6_sumOf_12 : decode cX6_sumOf 12 = .ok (.invokevirtual 121, 3) := by decide +kernel
theorem dX6_sumOf_15 : decode cX6_sumOf 15 = .ok (.aload_n 0, 1) := by decide +kernel
theorem dX6_sumOf_16 : decode cX6_sumOf 16 = .ok (.invokevirtual 130, 3) := by decide +kernel
theorem dX6_sumOf_19 : decode cX6_sumOf 19 = .ok (.aload_n 0, 1) := by decide +kernel
theorem dX6_sumOf_20 : decode cX6_sumOf 20 = .ok (.getfield 26, 3) := by decide +kernel
theorem dX6_sumOf_23 : decode cX6_sumOf 23 = .ok (.iconst 0, 1) := by decide +kernel
theorem dX6_sumOf_24 : decode cX6_sumOf 24 = .ok (.iconst 0, 1) := by decide +kernel
theorem dX6_sumOf_25 : decode cX6_sumOf 25 = .ok (.invokevirtual 127, 3) := by decide +kernel
theorem dX6_sumOf_28 : decode cX6_sumOf 28 = .ok (.return_, 1) := by decide +kernel
theorem dX6_times_0 : decode cX6_times 0 = .ok (.aload_n 0, 1) := by decide +kernel
theorem dX6_times_1 : decode cX6_times 1 = .ok (.bipush 31, 2) := by decide +kernel
theorem dX6_times_3 : decode cX6_times 3 = .ok (.invokevirtual 66, 3) := by decide +kernel
theorem dX6_times_6 : decode cX6_times 6 = .ok (.ifCond .eq 60, 3) := by decide +kernel
theorem dX6_times_9 : decode cX6_times 9 = .ok (.aload_n 0, 1) := by decide +kernel
theorem dX6_times_10 : decode cX6_times 10 = .ok (.getfield 18, 3) := by decide +kernel
theorem dX6_times_13 : decode cX6_times 13 = .ok (.aload_n 0, 1) := by decide +kernel
theorem dX6_times_14 : decode cX6_times 14 = .ok (.getfield 47, 3) := by decide +kernel
theorem dX6_times_17 : decode cX6_times 17 = .ok (.iaload, 1) := by decide +kernel
theorem dX6_times_18 : decode cX6_times 18 = .ok (.iconst 1, 1) := by decide +kernel
theorem dX6_times_19 : decode cX6_times 19 = .ok (.if_icmp .lt 47, 3) := by decide +kernel
theorem dX6_times_22 : decode cX6_times 22 = .ok (.aload_n 0, 1) := by decide +kernel
theorem dX6_times_23 : decode cX6_times 23 = .ok (.getfield 18, 3) := by decide +kernel
theorem dX6_times_26 : decode cX6_times 26 = .ok (.aload_n 0, 1) := by decide +kernel
theorem dX6_times_27 : decode cX6_times 27 = .ok (.getfield 47, 3) := by decide +kernel
theorem dX6_times_30 : decode cX6_times 30 = .ok (.iaload, 1) := by decide +kernel
theorem dX6_times_31 : decode cX6_times 31 = .ok (.bipush 20, 2) := by decide +kernel
theorem dX6_times_33 : decode cX6_times 33 = .ok (.if_icmp .gt 33, 3) := by decide +kernel
theorem dX6_times_36 : decode cX6_times 36 = .ok (.aload_n 0, 1) := by decide +kernel
theorem dX6_times_37 : decode cX6_times 37 = .ok (.getfield 26, 3) := by decide +kernel
theorem dX6_times_40 : decode cX6_times 40 = .ok (.iconst 4, 1) := by decide +kernel
theorem dX6_times_41 : decode cX6_times 41 = .ok (.aload_n 0, 1) := by decide +kernel
theorem dX6_times_42 : decode cX6_times 42 = .ok (.getfield 18, 3) := by decide +kernel
theorem dX6_times_45 : decode cX6_times 45 = .ok (.aload_n 0, 1) := by decide +kernel
theorem dX6_times_46 : decode cX6_times 46 = .ok (.getfield 47, 3) := by decide +kernel
theorem dX6_times_49 : decode cX6_times 49 = .ok (.iaload, 1) := by decide +kernel
theorem dX6_times_50 : decode cX6_times 50 = .ok (.invokevirtual 121, 3) := by decide +kernel
theorem dX6_times_53 : decode cX6_times 53 = .ok (.aload_n 0, 1) := by decide +kernel
theorem dX6_times_54 : decode cX6_times 54 = .ok (.dup, 1) := by decide +kernel
theorem dX6_times_55 : decode cX6_times 55 = .ok (.getfield 47, 3) := by decide +kernel
theorem dX6_times_58 : decode cX6_times 58 = .ok (.iconst 1, 1) := by decide +kernel
theorem dX6_times_59 : decode cX6_times 59 = .ok (.iadd, 1) := by decide +kernel
theorem dX6_times_60 : decode cX6_times 60 = .ok (.putfield 47, 3) := by decide +kernel
theorem dX6_times_63 : decode cX6_times 63 = .ok (.goto 7, 3) := by decide +kernel
theorem dX6_times_66 : decode cX6_times 66 = .ok (.aload_n 0, 1) := by decide +kernel
theorem dX6_times_67 : decode cX6_times 67 = .ok (.invokevirtual 60, 3) := by decide +kernel
theorem dX6_times_70 : decode cX6_times 70 = .ok (.return_, 1) := by decide +kernel
theorem dX6_test_0 : decode cX6_test 0 = .ok (.aload_n 0, 1) := by decide +kernel
theorem dX6_test_1 : decode cX6_test 1 = .ok (.invokevirtual 133, 3) := by decide +kernel
theorem dX6_test_4 : decode cX6_test 4 = .ok (.iconst 0, 1) := by decide +kernel
theorem dX6_test_5 : decode cX6_test 5 = .ok (.istore_n 1, 1) := by decide +kernel
theorem dX6_test_6 : decode cX6_test 6 = .ok (.iload_n 1, 1) := by decide +kernel
theorem dX6_test_7 : decode cX6_test 7 = .ok (.sipush 400, 3) := by decide +kernel
theorem dX6_test_10 : decode cX6_test 10 = .ok (.if_icmp .ge 60, 3) := by decide +kernel
theorem dX6_test_13 : decode cX6_test 13 = .ok (.aload_n 0, 1) := by decide +kernel
theorem dX6_test_14 : decode cX6_test 14 = .ok (.bipush 24, 2) := by decide +kernel
theorem dX6_test_16 : decode cX6_test 16 = .ok (.invokevirtual 66, 3) := by decide +kernel
theorem dX6_test_19 : decode cX6_test 19 = .ok (.ifCond .eq 51, 3) := by decide +kernel
theorem dX6_test_22 : decode cX6_test 22 = .ok (.aload_n 0, 1) := by decide +kernel
theorem dX6_test_23 : decode cX6_test 23 = .ok (.getfield 26, 3) := by decide +kernel
theorem dX6_test_26 : decode cX6_test 26 = .ok (.getfield 118, 3) := by decide +kernel
theorem dX6_test_29 : decode cX6_test 29 = .ok (.istore_n 2, 1) := by decide +kernel
theorem dX6_test_30 : decode cX6_test 30 = .ok (.aload_n 0, 1) := by decide +kernel
theorem dX6_test_31 : decode cX6_test 31 = .ok (.dup, 1) := by decide +kernel
theorem dX6_test_32 : decode cX6_test 32 = .ok (.getfield 47, 3) := by decide +kernel
theorem dX6_test_35 : decode cX6_test 35 = .ok (.iconst 1, 1) := by decide +kernel
theorem dX6_test_36 : decode cX6_test 36 = .ok (.iadd, 1) := by decide +kernel
theorem dX6_test_37 : decode cX6_test 37 = .ok (.putfield 47, 3) := by decide +kernel
theorem dX6_test_40 : decode cX6_test 40 = .ok (.aload_n 0, 1) := by decide +kernel
theorem dX6_test_41 : decode cX6_test 41 = .ok (.getfield 26, 3) := by decide +kernel
theorem dX6_test_44 : decode cX6_test 44 = .ok (.bipush 12, 2) := by decide +kernel
theorem dX6_test_46 : decode cX6_test 46 = .ok (.iconst 0, 1) := by decide +kernel
theorem dX6_test_47 : decode cX6_test 47 = .ok (.invokevirtual 127, 3) := by decide +kernel
theorem dX6_test_50 : decode cX6_test 50 = .ok (.aload_n 0, 1) := by decide +kernel
theorem dX6_test_51 : decode cX6_test 51 = .ok (.invokevirtual 133, 3) := by decide +kernel
theorem dX6_test_54 : decode cX6_test 54 = .ok (.aload_n 0, 1) := by decide +kernel
theorem dX6_test_55 : decode cX6_test 55 = .ok (.getfield 26, 3) := by decide +kernel
theorem dX6_test_58 : decode cX6_test 58 = .ok (.iload_n 2, 1) := by decide +kernel
theorem dX6_test_59 : decode cX6_test 59 = .ok (.bipush 12, 2) := by decide +kernel
theorem dX6_test_61 : decode cX6_test 61 = .ok (.invokevirtual 136, 3) := by decide +kernel
theorem dX6_test_64 : decode cX6_test 64 = .ok (.iinc 1 1, 3) := by decide +kernel
theorem dX6_test_67 : decode cX6_test 67 = .ok (.goto (-61), 3) := by decide +kernel
theorem dX6_test_70 : decode cX6_test 70 = .ok (.return_, 1) := by decide +kernel
theorem dX6_both_0 : decode cX6_both 0 = .ok (.aload_n 0, 1) := by decide +kernel
theorem dX6_both_1 : decode cX6_both 1 = .ok (.invokevirtual 139, 3) := by decide +kernel
theorem dX6_both_4 : decode cX6_both 4 = .ok (.iconst 0, 1) := by decide +kernel
theorem dX6_both_5 : decode cX6_both 5 = .ok (.istore_n 1, 1) := by decide +kernel
theorem dX6_both_6 : decode cX6_both 6 = .ok (.iload_n 1, 1) := by decide +kernel
theorem dX6_both_7 : decode cX6_both 7 = .ok (.sipush 400, 3) := by decide +kernel
theorem dX6_both_10 : decode cX6_both 10 = .ok (.if_icmp .ge 60, 3) := by decide +kernel
theorem dX6_both_13 : decode cX6_both 13 = .ok (.aload_n 0, 1) := by decide +kernel
theorem dX6_both_14 : decode cX6_both 14 = .ok (.bipush 25, 2) := by decide +kernel
theorem dX6_both_16 : decode cX6_both 16 = .ok (.invokevirtual 66, 3) := by decide +kernel
theorem dX6_both_19 : decode cX6_both 19 = .ok (.ifCond .eq 51, 3) := by decide +kernel
theorem dX6_both_22 : decode cX6_both 22 = .ok (.aload_n 0, 1) := by decide +kernel
theorem dX6_both_23 : decode cX6_both 23 = .ok (.getfield 26, 3) := by decide +kernel
theorem dX6_both_26 : decode cX6_both 26 = .ok (.getfield 118, 3) := by decide +kernel
theorem dX6_both_29 : decode cX6_both 29 = .ok (.istore_n 2, 1) := by decide +kernel
theorem dX6_both_30 : decode cX6_both 30 = .ok (.aload_n 0, 1) := by decide +kernel
theorem dX6_both_31 : decode cX6_both 31 = .ok (.dup, 1) := by decide +kernel
theorem dX6_both_32 : decode cX6_both 32 = .ok (.getfield 47, 3) := by decide +kernel
theorem dX6_both_35 : decode cX6_both 35 = .ok (.iconst 1, 1) := by decide +kernel
theorem dX6_both_36 : decode cX6_both 36 = .ok (.iadd, 1) := by decide +kernel
theorem dX6_both_37 : decode cX6_both 37 = .ok (.putfield 47, 3) := by decide +kernel
theorem dX6_both_40 : decode cX6_both 40 = .ok (.aload_n 0, 1) := by decide +kernel
theorem dX6_both_41 : decode cX6_both 41 = .ok (.getfield 26, 3) := by decide +kernel
theorem dX6_both_44 : decode cX6_both 44 = .ok (.bipush 13, 2) := by decide +kernel
theorem dX6_both_46 : decode cX6_both 46 = .ok (.iconst 0, 1) := by decide +kernel
theorem dX6_both_47 : decode cX6_both 47 = .ok (.invokevirtual 127, 3) := by decide +kernel
theorem dX6_both_50 : decode cX6_both 50 = .ok (.aload_n 0, 1) := by decide +kernel
theorem dX6_both_51 : decode cX6_both 51 = .ok (.invokevirtual 139, 3) := by decide +kernel
theorem dX6_both_54 : decode cX6_both 54 = .ok (.aload_n 0, 1) := by decide +kernel
theorem dX6_both_55 : decode cX6_both 55 = .ok (.getfield 26, 3) := by decide +kernel
theorem dX6_both_58 : decode cX6_both 58 = .ok (.iload_n 2, 1) := by decide +kernel
theorem dX6_both_59 : decode cX6_both 59 = .ok (.bipush 13, 2) := by decide +kernel
theorem dX6_both_61 : decode cX6_both 61 = .ok (.invokevirtual 136, 3) := by decide +kernel
theorem dX6_both_64 : decode cX6_both 64 = .ok (.iinc 1 1, 3) := by decide +kernel
theorem dX6_both_67 : decode cX6_both 67 = .ok (.goto (-61), 3) := by decide +kernel
theorem dX6_both_70 : decode cX6_both 70 = .ok (.return_, 1) := by decide +kernel
theorem dX6_plain_0 : decode cX6_plain 0 = .ok (.iconst 0, 1) := by decide +kernel
theorem dX6_plain_1 : decode cX6_plain 1 = .ok (.istore_n 1, 1) := by decide +kernel
theorem dX6_plain_2 : decode cX6_plain 2 = .ok (.iconst 0, 1) := by decide +kernel
theorem dX6_plain_3 : decode cX6_plain 3 = .ok (.istore_n 2, 1) := by decide +kernel
theorem dX6_plain_4 : decode cX6_plain 4 = .ok (.iload_n 2, 1) := by decide +kernel
theorem dX6_plain_5 : decode cX6_plain 5 = .ok (.sipush 400, 3) := by decide +kernel
theorem dX6_plain_8 : decode cX6_plain 8 = .ok (.if_icmp .ge 38, 3) := by decide +kernel
theorem dX6_plain_11 : decode cX6_plain 11 = .ok (.aload_n 0, 1) := by decide +kernel
theorem dX6_plain_12 : decode cX6_plain 12 = .ok (.bipush 26, 2) := by decide +kernel
theorem dX6_plain_14 : decode cX6_plain 14 = .ok (.invokevirtual 66, 3) := by decide +kernel
theorem dX6_plain_17 : decode cX6_plain 17 = .ok (.ifCond .eq 29, 3) := by decide +kernel
theorem dX6_plain_20 : decode cX6_plain 20 = .ok (.iload_n 1, 1) := by decide +kernel
theorem dX6_plain_21 : decode cX6_plain 21 = .ok (.ifCond .ne 7, 3) := by decide +kernel
theorem dX6_plain_24 : decode cX6_plain 24 = .ok (.iconst 1, 1) := by decide +kernel
theorem dX6_plain_25 : decode cX6_plain 25 = .ok (.goto 4, 3) := by decide +kernel
theorem dX6_plain_28 : decode cX6_plain 28 = .ok (.iconst 0, 1) := by decide +kernel
theorem dX6_plain_29 : decode cX6_plain 29 = .ok (.istore_n 1, 1) := by decide +kernel
theorem dX6_plain_30 : decode cX6_plain 30 = .ok (.aload_n 0, 1) := by decide +kernel
theorem dX6_plain_31 : decode cX6_plain 31 = .ok (.dup, 1) := by decide +kernel
theorem dX6_plain_32 : decode cX6_plain 32 = .ok (.getfield 47, 3) := by decide +kernel
theorem dX6_plain_35 : decode cX6_plain 35 = .ok (.iconst 1, 1) := by decide +kernel
theorem dX6_plain_36 : decode cX6_plain 36 = .ok (.iadd, 1) := by decide +kernel
theorem dX6_plain_37 : decode cX6_plain 37 = .ok (.putfield 47, 3) := by decide +kernel
theorem dX6_plain_40 : decode cX6_plain 40 = .ok (.iinc 2 1, 3) := by decide +kernel
theorem dX6_plain_43 : decode cX6_plain 43 = .ok (.goto (-39), 3) := by decide +kernel
theorem dX6_plain_46 : decode cX6_plain 46 = .ok (.aload_n 0, 1) := by decide +kernel
theorem dX6_plain_47 : decode cX6_plain 47 = .ok (.sipush 140, 3) := by decide +kernel
theorem dX6_plain_50 : decode cX6_plain 50 = .ok (.invokevirtual 66, 3) := by decide +kernel
theorem dX6_plain_53 : decode cX6_plain 53 = .ok (.ifCond .eq 23, 3) := by decide +kernel
theorem dX6_plain_56 : decode cX6_plain 56 = .ok (.aload_n 0, 1) := by decide +kernel
theorem dX6_plain_57 : decode cX6_plain 57 = .ok (.invokevirtual 142, 3) := by decide +kernel
theorem dX6_plain_60 : decode cX6_plain 60 = .ok (.ifCond .eq 59, 3) := by decide +kernel
theorem dX6_plain_63 : decode cX6_plain 63 = .ok (.aload_n 0, 1) := by decide +kernel
theorem dX6_plain_64 : decode cX6_plain 64 = .ok (.invokevirtual 124, 3) := by decide +kernel
theorem dX6_plain_67 : decode cX6_plain 67 = .ok (.aload_n 0, 1) := by decide +kernel
theorem dX6_plain_68 : decode cX6_plain 68 = .ok (.bipush 41, 2) := by decide +kernel
theorem dX6_plain_70 : decode cX6_plain 70 = .ok (.invokevirtual 146, 3) := by decide +kernel
theorem dX6_plain_73 : decode cX6_plain 73 = .ok (.goto 46, 3) := by decide +kernel
theorem dX6_plain_76 : decode cX6_plain 76 = .ok (.aload_n 0, 1) := by decide +kernel
theorem dX6_plain_77 : decode cX6_plain 77 = .ok (.invokevirtual 130, 3) := by decide +kernel
theorem dX6_plain_80 : decode cX6_plain 80 = .ok (.aload_n 0, 1) := by decide +kernel
theorem dX6_plain_81 : decode cX6_plain 81 = .ok (.invokevirtual 150, 3) := by decide +kernel
theorem dX6_plain_84 : decode cX6_plain 84 = .ok (.istore_n 2, 1) := by decide +kernel
theorem dX6_plain_85 : decode cX6_plain 85 = .ok (.iload_n 2, 1) := by decide +kernel
theorem dX6_plain_86 : decode cX6_plain 86 = .ok (.ifCond .ne 10, 3) := by decide +kernel
theorem dX6_plain_89 : decode cX6_plain 89 = .ok (.aload_n 0, 1) := by decide +kernel
theorem dX6_plain_90 : decode cX6_plain 90 = .ok (.invokevirtual 60, 3) := by decide +kernel
theorem dX6_plain_93 : decode cX6_plain 93 = .ok (.goto 26, 3) := by decide +kernel
theorem dX6_plain_96 : decode cX6_plain 96 = .ok (.aload_n 0, 1) := by decide +kernel
theorem dX6_plain_97 : decode cX6_plain 97 = .ok (.dup, 1) := by decide +kernel
theorem dX6_plain_98 : decode cX6_plain 98 = .ok (.getfield 47, 3) := by decide +kernel
theorem dX6_plain_101 : decode cX6_plain 101 = .ok (.iconst 1, 1) := by decide +kernel
theorem dX6_plain_102 : decode cX6_plain 102 = .ok (.iadd, 1) := by decide +kernel
theorem dX6_plain_103 : decode cX6_plain 103 = .ok (.putfield 47, 3) := by decide +kernel
theorem dX6_plain_106 : decode cX6_plain 106 = .ok (.aload_n 0, 1) := by decide +kernel
theorem dX6_plain_107 : decode cX6_plain 107 = .ok (.invokevirtual 130, 3) := by decide +kernel
theorem dX6_plain_110 : decode cX6_plain 110 = .ok (.aload_n 0, 1) := by decide +kernel
theorem dX6_plain_111 : decode cX6_plain 111 = .ok (.getfield 26, 3) := by decide +kernel
theorem dX6_plain_114 : decode cX6_plain 114 = .ok (.iload_n 2, 1) := by decide +kernel
theorem dX6_plain_115 : decode cX6_plain 115 = .ok (.iconst 0, 1) := by decide +kernel
theorem dX6_plain_116 : decode cX6_plain 116 = .ok (.invokevirtual 127, 3) := by decide +kernel
theorem dX6_plain_119 : decode cX6_plain 119 = .ok (.iload_n 1, 1) := by decide +kernel
theorem dX6_plain_120 : decode cX6_plain 120 = .ok (.ifCond .eq 13, 3) := by decide +kernel
theorem dX6_plain_123 : decode cX6_plain 123 = .ok (.aload_n 0, 1) := by decide +kernel
theorem dX6_plain_124 : decode cX6_plain 124 = .ok (.getfield 26, 3) := by decide +kernel
theorem dX6_plain_127 : decode cX6_plain 127 = .ok (.bipush 11, 2) := by decide +kernel
theorem dX6_plain_129 : decode cX6_plain 129 = .ok (.iconst 0, 1) := by decide +kernel
theorem dX6_plain_130 : decode cX6_plain 130 = .ok (.invokevirtual 127, 3) := by decide +kernel
theorem dX6_plain_133 : decode cX6_plain 133 = .ok (.return_, 1) := by decide +kernel
theorem dX6_compares_0 : decode cX6_compares 0 = .ok (.aload_n 0, 1) := by decide +kernel
theorem dX6_compares_1 : decode cX6_compares 1 = .ok (.sipush 160, 3) := by decide +kernel
theorem dX6_compares_4 : decode cX6_compares 4 = .ok (.invokevirtual 66, 3) := by decide +kernel
theorem dX6_compares_7 : decode cX6_compares 7 = .ok (.ifCond .eq 6, 3) := by decide +kernel
theorem dX6_compares_10 : decode cX6_compares 10 = .ok (.bipush 8, 2) := by decide +kernel
theorem dX6_compares_12 : decode cX6_compares 12 = .ok (.ireturn, 1) := by decide +kernel
theorem dX6_compares_13 : decode cX6_compares 13 = .ok (.aload_n 0, 1) := by decide +kernel
theorem dX6_compares_14 : decode cX6_compares 14 = .ok (.sipush 162, 3) := by decide +kernel
theorem dX6_compares_17 : decode cX6_compares 17 = .ok (.invokevirtual 66, 3) := by decide +kernel
theorem dX6_compares_20 : decode cX6_compares 20 = .ok (.ifCond .eq 6, 3) := by decide +kernel
theorem dX6_compares_23 : decode cX6_compares 23 = .ok (.bipush 9, 2) := by decide +kernel
theorem dX6_compares_25 : decode cX6_compares 25 = .ok (.ireturn, 1) := by decide +kernel
theorem dX6_compares_26 : decode cX6_compares 26 = .ok (.aload_n 0, 1) := by decide +kernel
theorem dX6_compares_27 : decode cX6_compares 27 = .ok (.sipush 161, 3) := by decide +kernel
theorem dX6_compares_30 : decode cX6_compares 30 = .ok (.invokevirtual 66, 3) := by decide +kernel
theorem dX6_compares_33 : decode cX6_compares 33 = .ok (.ifCond .eq 8, 3) := by decide +kernel
theorem dX6_compares_36 : decode cX6_compares 36 = .ok (.bipush 10, 2) := by decide +kernel
theorem dX6_compares_38 : decode cX6_compares 38 = .ok (.goto 4, 3) := by decide +kernel
theorem dX6_compares_41 : decode cX6_compares 41 = .ok (.iconst 0, 1) := by decide +kernel
theorem dX6_compares_42 : decode cX6_compares 42 = .ok (.ireturn, 1) := by decide +kernel
theorem dX6_sum_0 : decode cX6_sum 0 = .ok (.aload_n 0, 1) := by decide +kernel
theorem dX6_sum_1 : decode cX6_sum 1 = .ok (.invokevirtual 153, 3) := by decide +kernel
theorem dX6_sum_4 : decode cX6_sum 4 = .ok (.iconst 0, 1) := by decide +kernel
theorem dX6_sum_5 : decode cX6_sum 5 = .ok (.istore_n 1, 1) := by decide +kernel
theorem dX6_sum_6 : decode cX6_sum 6 = .ok (.iload_n 1, 1) := by decide +kernel
theorem dX6_sum_7 : decode cX6_sum 7 = .ok (.sipush 400, 3) := by decide +kernel
theorem dX6_sum_10 : decode cX6_sum 10 = .ok (.if_icmp .ge 68, 3) := by decide +kernel
theorem dX6_sum_13 : decode cX6_sum 13 = .ok (.aload_n 0, 1) := by decide +kernel
theorem dX6_sum_14 : decode cX6_sum 14 = .ok (.sipush 143, 3) := by decide +kernel
theorem dX6_sum_17 : decode cX6_sum 17 = .ok (.invokevirtual 66, 3) := by decide +kernel
theorem dX6_sum_20 : decode cX6_sum 20 = .ok (.ifCond .ne 13, 3) := by decide +kernel
theorem dX6_sum_23 : decode cX6_sum 23 = .ok (.aload_n 0, 1) := by decide +kernel
theorem dX6_sum_24 : decode cX6_sum 24 = .ok (.sipush 145, 3) := by decide +kernel
theorem dX6_sum_27 : decode cX6_sum 27 = .ok (.invokevirtual 66, 3) := by decide +kernel
theorem dX6_sum_30 : decode cX6_sum 30 = .ok (.ifCond .eq 48, 3) := by decide +kernel
theorem dX6_sum_33 : decode cX6_sum 33 = .ok (.aload_n 0, 1) := by decide +kernel
theorem dX6_sum_34 : decode cX6_sum 34 = .ok (.sipush 143, 3) := by decide +kernel
theorem dX6_sum_37 : decode cX6_sum 37 = .ok (.invokevirtual 66, 3) := by decide +kernel
theorem dX6_sum_40 : decode cX6_sum 40 = .ok (.ifCond .eq 7, 3) := by decide +kernel
theorem dX6_sum_43 : decode cX6_sum 43 = .ok (.iconst 3, 1) := by decide +kernel
theorem dX6_sum_44 : decode cX6_sum 44 = .ok (.goto 4, 3) := by decide +kernel
theorem dX6_sum_47 : decode cX6_sum 47 = .ok (.iconst 4, 1) := by decide +kernel
theorem dX6_sum_48 : decode cX6_sum 48 = .ok (.istore_n 2, 1) := by decide +kernel
theorem dX6_sum_49 : decode cX6_sum 49 = .ok (.aload_n 0, 1) := by decide +kernel
theorem dX6_sum_50 : decode cX6_sum 50 = .ok (.dup, 1) := by decide +kernel
theorem dX6_sum_51 : decode cX6_sum 51 = .ok (.getfield 47, 3) := by decide +kernel
theorem dX6_sum_54 : decode cX6_sum 54 = .ok (.iconst 1, 1) := by decide +kernel
theorem dX6_sum_55 : decode cX6_sum 55 = .ok (.iadd, 1) := by decide +kernel
theorem dX6_sum_56 : decode cX6_sum 56 = .ok (.putfield 47, 3) := by decide +kernel
theorem dX6_sum_59 : decode cX6_sum 59 = .ok (.aload_n 0, 1) := by decide +kernel
theorem dX6_sum_60 : decode cX6_sum 60 = .ok (.invokevirtual 153, 3) := by decide +kernel
theorem dX6_sum_63 : decode cX6_sum 63 = .ok (.aload_n 0, 1) := by decide +kernel
theorem dX6_sum_64 : decode cX6_sum 64 = .ok (.getfield 26, 3) := by decide +kernel
theorem dX6_sum_67 : decode cX6_sum 67 = .ok (.iload_n 2, 1) := by decide +kernel
theorem dX6_sum_68 : decode cX6_sum 68 = .ok (.iconst 0, 1) := by decide +kernel
theorem dX6_sum_69 : decode cX6_sum 69 = .ok (.invokevirtual 127, 3) := by decide +kernel
theorem dX6_sum_72 : decode cX6_sum 72 = .ok (.iinc 1 1, 3) := by decide +kernel
theorem dX6_sum_75 : decode cX6_sum 75 = .ok (.goto (-69), 3) := by decide +kernel
theorem dX6_sum_78 : decode cX6_sum 78 = .ok (.return_, 1) := by decide +kernel
theorem dX6_term_0 : decode cX6_term 0 = .ok (.aload_n 0, 1) := by decide +kernel
theorem dX6_term_1 : decode cX6_term 1 = .ok (.invokevirtual 156, 3) := by decide +kernel
theorem dX6_term_4 : decode cX6_term 4 = .ok (.aload_n 0, 1) := by decide +kernel
theorem dX6_term_5 : decode cX6_term 5 = .ok (.invokevirtual 159, 3) := by decide +kernel
theorem dX6_term_8 : decode cX6_term 8 = .ok (.istore_n 1, 1) := by decide +kernel
theorem dX6_term_9 : decode cX6_term 9 = .ok (.iconst 0, 1) := by decide +kernel
theorem dX6_term_10 : decode cX6_term 10 = .ok (.istore_n 2, 1) := by decide +kernel
theorem dX6_term_11 : decode cX6_term 11 = .ok (.iload_n 2, 1) := by decide +kernel
theorem dX6_term_12 : decode cX6_term 12 = .ok (.sipush 400, 3) := by decide +kernel
theorem dX6_term_15 : decode cX6_term 15 = .ok (.if_icmp .ge 41, 3) := by decide +kernel
theorem dX6_term_18 : decode cX6_term 18 = .ok (.iload_n 1, 1) := by decide +kernel
theorem dX6_term_19 : decode cX6_term 19 = .ok (.ifCond .eq 37, 3) := by decide +kernel
theorem dX6_term_22 : decode cX6_term 22 = .ok (.aload_n 0, 1) := by decide +kernel
theorem dX6_term_23 : decode cX6_term 23 = .ok (.dup, 1) := by decide +kernel
theorem dX6_term_24 : decode cX6_term 24 = .ok (.getfield 47, 3) := by decide +kernel
theorem dX6_term_27 : decode cX6_term 27 = .ok (.iconst 1, 1) := by decide +kernel
theorem dX6_term_28 : decode cX6_term 28 = .ok (.iadd, 1) := by decide +kernel
theorem dX6_term_29 : decode cX6_term 29 = .ok (.putfield 47, 3) := by decide +kernel
theorem dX6_term_32 : decode cX6_term 32 = .ok (.aload_n 0, 1) := by decide +kernel
theorem dX6_term_33 : decode cX6_term 33 = .ok (.invokevirtual 156, 3) := by decide +kernel
theorem dX6_term_36 : decode cX6_term 36 = .ok (.aload_n 0, 1) := by decide +kernel
theorem dX6_term_37 : decode cX6_term 37 = .ok (.getfield 26, 3) := by decide +kernel
theorem dX6_term_40 : decode cX6_term 40 = .ok (.iload_n 1, 1) := by decide +kernel
theorem dX6_term_41 : decode cX6_term 41 = .ok (.iconst 0, 1) := by decide +kernel
theorem dX6_term_42 : decode cX6_term 42 = .ok (.invokevirtual 127, 3) := by decide +kernel
theorem dX6_term_45 : decode cX6_term 45 = .ok (.aload_n 0, 1) := by decide +kernel
theorem dX6_term_46 : decode cX6_term 46 = .ok (.invokevirtual 159, 3) := by decide +kernel
theorem dX6_term_49 : decode cX6_term 49 = .ok (.istore_n 1, 1) := by decide +kernel
theorem dX6_term_50 : decode cX6_term 50 = .ok (.iinc 2 1, 3) := by decide +kernel
theorem dX6_term_53 : decode cX6_term 53 = .ok (.goto (-42), 3) := by decide +kernel
theorem dX6_term_56 : decode cX6_term 56 = .ok (.return_, 1) := by decide +kernel
theorem dX6_multiplies_0 : decode cX6_multiplies 0 = .ok (.aload_n 0, 1) := by decide +kernel
theorem dX6_multiplies_1 : decode cX6_multiplies 1 = .ok (.sipush 142, 3) := by decide +kernel
theorem dX6_multiplies_4 : decode cX6_multiplies 4 = .ok (.invokevirtual 66, 3) := by decide +kernel
theorem dX6_multiplies_7 : decode cX6_multiplies 7 = .ok (.ifCond .eq 5, 3) := by decide +kernel
theorem dX6_multiplies_10 : decode cX6_multiplies 10 = .ok (.iconst 5, 1) := by decide +kernel
theorem dX6_multiplies_11 : decode cX6_multiplies 11 = .ok (.ireturn, 1) := by decide +kernel
theorem dX6_multiplies_12 : decode cX6_multiplies 12 = .ok (.aload_n 0, 1) := by decide +kernel
theorem dX6_multiplies_13 : decode cX6_multiplies 13 = .ok (.sipush 147, 3) := by decide +kernel
theorem dX6_multiplies_16 : decode cX6_multiplies 16 = .ok (.invokevirtual 66, 3) := by decide +kernel
theorem dX6_multiplies_19 : decode cX6_multiplies 19 = .ok (.ifCond .eq 6, 3) := by decide +kernel
theorem dX6_multiplies_22 : decode cX6_multiplies 22 = .ok (.bipush 6, 2) := by decide +kernel
theorem dX6_multiplies_24 : decode cX6_multiplies 24 = .ok (.ireturn, 1) := by decide +kernel
theorem dX6_multiplies_25 : decode cX6_multiplies 25 = .ok (.aload_n 0, 1) := by decide +kernel
theorem dX6_multiplies_26 : decode cX6_multiplies 26 = .ok (.sipush 137, 3) := by decide +kernel
theorem dX6_multiplies_29 : decode cX6_multiplies 29 = .ok (.invokevirtual 66, 3) := by decide +kernel
theorem dX6_multiplies_32 : decode cX6_multiplies 32 = .ok (.ifCond .eq 8, 3) := by decide +kernel
theorem dX6_multiplies_35 : decode cX6_multiplies 35 = .ok (.bipush 7, 2) := by decide +kernel
theorem dX6_multiplies_37 : decode cX6_multiplies 37 = .ok (.goto 4, 3) := by decide +kernel
theorem dX6_multiplies_40 : decode cX6_multiplies 40 = .ok (.iconst 0, 1) := by decide +kernel
theorem dX6_multiplies_41 : decode cX6_multiplies 41 = .ok (.ireturn, 1) := by decide +kernel
theorem dX6_part_0 : decode cX6_part 0 = .ok (.aload_n 0, 1) := by decide +kernel
theorem dX6_part_1 : decode cX6_part 1 = .ok (.sipush 191, 3) := by decide +kernel
theorem dX6_part_4 : decode cX6_part 4 = .ok (.invokevirtual 66, 3) := by decide +kernel
theorem dX6_part_7 : decode cX6_part 7 = .ok (.ifCond .eq 23, 3) := by decide +kernel
theorem dX6_part_10 : decode cX6_part 10 = .ok (.aload_n 0, 1) := by decide +kernel
theorem dX6_part_11 : decode cX6_part 11 = .ok (.invokevirtual 142, 3) := by decide +kernel
theorem dX6_part_14 : decode cX6_part 14 = .ok (.ifCond .eq 118, 3) := by decide +kernel
theorem dX6_part_17 : decode cX6_part 17 = .ok (.aload_n 0, 1) := by decide +kernel
theorem dX6_part_18 : decode cX6_part 18 = .ok (.invokevirtual 130, 3) := by decide +kernel
theorem dX6_part_21 : decode cX6_part 21 = .ok (.aload_n 0, 1) := by decide +kernel
theorem dX6_part_22 : decode cX6_part 22 = .ok (.bipush 93, 2) := by decide +kernel
theorem dX6_part_24 : decode cX6_part 24 = .ok (.invokevirtual 146, 3) := by decide +kernel
theorem dX6_part_27 : decode cX6_part 27 = .ok (.goto 105, 3) := by decide +kernel
theorem dX6_part_30 : decode cX6_part 30 = .ok (.aload_n 0, 1) := by decide +kernel
theorem dX6_part_31 : decode cX6_part 31 = .ok (.getfield 51, 3) := by decide +kernel
theorem dX6_part_34 : decode cX6_part 34 = .ok (.iconst (-1), 1) := by decide +kernel
theorem dX6_part_35 : decode cX6_part 35 = .ok (.if_icmp .ne 12, 3) := by decide +kernel
theorem dX6_part_38 : decode cX6_part 38 = .ok (.aload_n 0, 1) := by decide +kernel
theorem dX6_part_39 : decode cX6_part 39 = .ok (.getfield 54, 3) := by decide +kernel
theorem dX6_part_42 : decode cX6_part 42 = .ok (.bipush 50, 2) := by decide +kernel
theorem dX6_part_44 : decode cX6_part 44 = .ok (.if_icmp .lt 10, 3) := by decide +kernel
theorem dX6_part_47 : decode cX6_part 47 = .ok (.aload_n 0, 1) := by decide +kernel
theorem dX6_part_48 : decode cX6_part 48 = .ok (.invokevirtual 60, 3) := by decide +kernel
theorem dX6_part_51 : decode cX6_part 51 = .ok (.goto 81, 3) := by decide +kernel
theorem dX6_part_54 : decode cX6_part 54 = .ok (.aload_n 0, 1) := by decide +kernel
theorem dX6_part_55 : decode cX6_part 55 = .ok (.bipush 31, 2) := by decide +kernel
theorem dX6_part_57 : decode cX6_part 57 = .ok (.invokevirtual 66, 3) := by decide +kernel
theorem dX6_part_60 : decode cX6_part 60 = .ok (.ifCond .eq 58, 3) := by decide +kernel
theorem dX6_part_63 : decode cX6_part 63 = .ok (.aload_n 0, 1) := by decide +kernel
theorem dX6_part_64 : decode cX6_part 64 = .ok (.getfield 18, 3) := by decide +kernel
theorem dX6_part_67 : decode cX6_part 67 = .ok (.aload_n 0, 1) := by decide +kernel
theorem dX6_part_68 : decode cX6_part 68 = .ok (.getfield 47, 3) := by decide +kernel
theorem dX6_part_71 : decode cX6_part 71 = .ok (.iaload, 1) := by decide +kernel
theorem dX6_part_72 : decode cX6_part 72 = .ok (.sipush 1000, 3) := by decide +kernel
theorem dX6_part_75 : decode cX6_part 75 = .ok (.if_icmp .gt 43, 3) := by decide +kernel
theorem dX6_part_78 : decode cX6_part 78 = .ok (.aload_n 0, 1) := by decide +kernel
theorem dX6_part_79 : decode cX6_part 79 = .ok (.dup, 1) := by decide +kernel
theorem dX6_part_80 : decode cX6_part 80 = .ok (.getfield 54, 3) := by decide +kernel
theorem dX6_part_83 : decode cX6_part 83 = .ok (.iconst 1, 1) := by decide +kernel
theorem dX6_part_84 : decode cX6_part 84 = .ok (.iadd, 1) := by decide +kernel
theorem dX6_part_85 : decode cX6_part 85 = .ok (.putfield 54, 3) := by decide +kernel
theorem dX6_part_88 : decode cX6_part 88 = .ok (.aload_n 0, 1) := by decide +kernel
theorem dX6_part_89 : decode cX6_part 89 = .ok (.getfield 26, 3) := by decide +kernel
theorem dX6_part_92 : decode cX6_part 92 = .ok (.iconst 1, 1) := by decide +kernel
theorem dX6_part_93 : decode cX6_part 93 = .ok (.aload_n 0, 1) := by decide +kernel
theorem dX6_part_94 : decode cX6_part 94 = .ok (.getfield 18, 3) := by decide +kernel
theorem dX6_part_97 : decode cX6_part 97 = .ok (.aload_n 0, 1) := by decide +kernel
theorem dX6_part_98 : decode cX6_part 98 = .ok (.getfield 47, 3) := by decide +kernel
theorem dX6_part_101 : decode cX6_part 101 = .ok (.iaload, 1) := by decide +kernel
theorem dX6_part_102 : decode cX6_part 102 = .ok (.invokevirtual 127, 3) := by decide +kernel
theorem dX6_part_105 : decode cX6_part 105 = .ok (.aload_n 0, 1) := by decide +kernel
theorem dX6_part_106 : decode cX6_part 106 = .ok (.dup, 1) := by decide +kernel
theorem dX6_part_107 : decode cX6_part 107 = .ok (.getfield 47, 3) := by decide +kernel
theorem dX6_part_110 : decode cX6_part 110 = .ok (.iconst 1, 1) := by decide +kernel
theorem dX6_part_111 : decode cX6_part 111 = .ok (.iadd, 1) := by decide +kernel
theorem dX6_part_112 : decode cX6_part 112 = .ok (.putfield 47, 3) := by decide +kernel
theorem dX6_part_115 : decode cX6_part 115 = .ok (.goto 17, 3) := by decide +kernel
theorem dX6_part_118 : decode cX6_part 118 = .ok (.aload_n 0, 1) := by decide +kernel
theorem dX6_part_119 : decode cX6_part 119 = .ok (.dup, 1) := by decide +kernel
theorem dX6_part_120 : decode cX6_part 120 = .ok (.getfield 54, 3) := by decide +kernel
theorem dX6_part_123 : decode cX6_part 123 = .ok (.iconst 1, 1) := by decide +kernel
theorem dX6_part_124 : decode cX6_part 124 = .ok (.iadd, 1) := by decide +kernel
theorem dX6_part_125 : decode cX6_part 125 = .ok (.putfield 54, 3) := by decide +kernel
theorem dX6_part_128 : decode cX6_part 128 = .ok (.aload_n 0, 1) := by decide +kernel
theorem dX6_part_129 : decode cX6_part 129 = .ok (.invokevirtual 162, 3) := by decide +kernel
theorem dX6_part_132 : decode cX6_part 132 = .ok (.return_, 1) := by decide +kernel
theorem dX6_named_0 : decode cX6_named 0 = .ok (.aload_n 0, 1) := by decide +kernel
theorem dX6_named_1 : decode cX6_named 1 = .ok (.getfield 47, 3) := by decide +kernel
theorem dX6_named_4 : decode cX6_named 4 = .ok (.aload_n 0, 1) := by decide +kernel
theorem dX6_named_5 : decode cX6_named 5 = .ok (.getfield 70, 3) := by decide +kernel
theorem dX6_named_8 : decode cX6_named 8 = .ok (.if_icmp .ge 15, 3) := by decide +kernel
theorem dX6_named_11 : decode cX6_named 11 = .ok (.aload_n 0, 1) := by decide +kernel
theorem dX6_named_12 : decode cX6_named 12 = .ok (.getfield 9, 3) := by decide +kernel
theorem dX6_named_15 : decode cX6_named 15 = .ok (.aload_n 0, 1) := by decide +kernel
theorem dX6_named_16 : decode cX6_named 16 = .ok (.getfield 47, 3) := by decide +kernel
theorem dX6_named_19 : decode cX6_named 19 = .ok (.iaload, 1) := by decide +kernel
theorem dX6_named_20 : decode cX6_named 20 = .ok (.goto 5, 3) := by decide +kernel
theorem dX6_named_23 : decode cX6_named 23 = .ok (.bipush 32, 2) := by decide +kernel
theorem dX6_named_25 : decode cX6_named 25 = .ok (.istore_n 1, 1) := by decide +kernel
theorem dX6_named_26 : decode cX6_named 26 = .ok (.aload_n 0, 1) := by decide +kernel
theorem dX6_named_27 : decode cX6_named 27 = .ok (.getfield 43, 3) := by decide +kernel
theorem dX6_named_30 : decode cX6_named 30 = .ok (.ifCond .eq 13, 3) := by decide +kernel
theorem dX6_named_33 : decode cX6_named 33 = .ok (.iload_n 1, 1) := by decide +kernel
theorem dX6_named_34 : decode cX6_named 34 = .ok (.invokestatic 165, 3) := by decide +kernel
theorem dX6_named_37 : decode cX6_named 37 = .ok (.ifCond .eq 35, 3) := by decide +kernel
theorem dX6_named_40 : decode cX6_named 40 = .ok (.goto 10, 3) := by decide +kernel
theorem dX6_named_43 : decode cX6_named 43 = .ok (.iload_n 1, 1) := by decide +kernel
theorem dX6_named_44 : decode cX6_named 44 = .ok (.invokestatic 168, 3) := by decide +kernel
theorem dX6_named_47 : decode cX6_named 47 = .ok (.ifCond .eq 25, 3) := by decide +kernel
theorem dX6_named_50 : decode cX6_named 50 = .ok (.aload_n 0, 1) := by decide +kernel
theorem dX6_named_51 : decode cX6_named 51 = .ok (.dup, 1) := by decide +kernel
theorem dX6_named_52 : decode cX6_named 52 = .ok (.getfield 47, 3) := by decide +kernel
theorem dX6_named_55 : decode cX6_named 55 = .ok (.iconst 1, 1) := by decide +kernel
theorem dX6_named_56 : decode cX6_named 56 = .ok (.iadd, 1) := by decide +kernel
theorem dX6_named_57 : decode cX6_named 57 = .ok (.putfield 47, 3) := by decide +kernel
theorem dX6_named_60 : decode cX6_named 60 = .ok (.aload_n 0, 1) := by decide +kernel
theorem dX6_named_61 : decode cX6_named 61 = .ok (.getfield 26, 3) := by decide +kernel
theorem dX6_named_64 : decode cX6_named 64 = .ok (.iconst 2, 1) := by decide +kernel
theorem dX6_named_65 : decode cX6_named 65 = .ok (.iload_n 1, 1) := by decide +kernel
theorem dX6_named_66 : decode cX6_named 66 = .ok (.invokevirtual 127, 3) := by decide +kernel
theorem dX6_named_69 : decode cX6_named 69 = .ok (.goto 118, 3) := by decide +kernel
theorem dX6_named_72 : decode cX6_named 72 = .ok (.aload_n 0, 1) := by decide +kernel
theorem dX6_named_73 : decode cX6_named 73 = .ok (.getfield 43, 3) := by decide +kernel
theorem dX6_named_76 : decode cX6_named 76 = .ok (.ifCond .ne 107, 3) := by decide +kernel
theorem dX6_named_79 : decode cX6_named 79 = .ok (.iload_n 1, 1) := by decide +kernel
theorem dX6_named_80 : decode cX6_named 80 = .ok (.iconst 2, 1) := by decide +kernel
theorem dX6_named_81 : decode cX6_named 81 = .ok (.if_icmp .eq 8, 3) := by decide +kernel
theorem dX6_named_84 : decode cX6_named 84 = .ok (.iload_n 1, 1) := by decide +kernel
theorem dX6_named_85 : decode cX6_named 85 = .ok (.iconst 5, 1) := by decide +kernel
theorem dX6_named_86 : decode cX6_named 86 = .ok (.if_icmp .ne 97, 3) := by decide +kernel
theorem dX6_named_89 : decode cX6_named 89 = .ok (.aload_n 0, 1) := by decide +kernel
theorem dX6_named_90 : decode cX6_named 90 = .ok (.dup, 1) := by decide +kernel
theorem dX6_named_91 : decode cX6_named 91 = .ok (.getfield 47, 3) := by decide +kernel
theorem dX6_named_94 : decode cX6_named 94 = .ok (.iconst 1, 1) := by decide +kernel
theorem dX6_named_95 : decode cX6_named 95 = .ok (.iadd, 1) := by decide +kernel
theorem dX6_named_96 : decode cX6_named 96 = .ok (.putfield 47, 3) := by decide +kernel
theorem dX6_named_99 : decode cX6_named 99 = .ok (.iload_n 1, 1) := by decide +kernel
theorem dX6_named_100 : decode cX6_named 100 = .ok (.iconst 2, 1) := by decide +kernel
theorem dX6_named_101 : decode cX6_named 101 = .ok (.if_icmp .ne 8, 3) := by decide +kernel
theorem dX6_named_104 : decode cX6_named 104 = .ok (.bipush 8, 2) := by decide +kernel
theorem dX6_named_106 : decode cX6_named 106 = .ok (.goto 4, 3) := by decide +kernel
theorem dX6_named_109 : decode cX6_named 109 = .ok (.iconst 4, 1) := by decide +kernel
theorem dX6_named_110 : decode cX6_named 110 = .ok (.istore_n 2, 1) := by decide +kernel
theorem dX6_named_111 : decode cX6_named 111 = .ok (.aload_n 0, 1) := by decide +kernel
theorem dX6_named_112 : decode cX6_named 112 = .ok (.bipush 31, 2) := by decide +kernel
theorem dX6_named_114 : decode cX6_named 114 = .ok (.invokevirtual 66, 3) := by decide +kernel
theorem dX6_named_117 : decode cX6_named 117 = .ok (.ifCond .eq 59, 3) := by decide +kernel
theorem dX6_named_120 : decode cX6_named 120 = .ok (.aload_n 0, 1) := by decide +kernel
theorem dX6_named_121 : decode cX6_named 121 = .ok (.getfield 18, 3) := by decide +kernel
theorem dX6_named_124 : decode cX6_named 124 = .ok (.aload_n 0, 1) := by decide +kernel
theorem dX6_named_125 : decode cX6_named 125 = .ok (.getfield 47, 3) := by decide +kernel
theorem dX6_named_128 : decode cX6_named 128 = .ok (.iaload, 1) := by decide +kernel
theorem dX6_named_129 : decode cX6_named 129 = .ok (.iload_n 2, 1) := by decide +kernel
theorem dX6_named_130 : decode cX6_named 130 = .ok (.if_icmp .ge 46, 3) := by decide +kernel
theorem dX6_named_133 : decode cX6_named 133 = .ok (.aload_n 0, 1) := by decide +kernel
theorem dX6_named_134 : decode cX6_named 134 = .ok (.getfield 26, 3) := by decide +kernel
theorem dX6_named_137 : decode cX6_named 137 = .ok (.iconst 2, 1) := by decide +kernel
theorem dX6_named_138 : decode cX6_named 138 = .ok (.iload_n 1, 1) := by decide +kernel
theorem dX6_named_139 : decode cX6_named 139 = .ok (.iconst 2, 1) := by decide +kernel
theorem dX6_named_140 : decode cX6_named 140 = .ok (.if_icmp .ne 8, 3) := by decide +kernel
theorem dX6_named_143 : decode cX6_named 143 = .ok (.bipush 13, 2) := by decide +kernel
theorem dX6_named_145 : decode cX6_named 145 = .ok (.goto 5, 3) := by decide +kernel
theorem dX6_named_148 : decode cX6_named 148 = .ok (.bipush 21, 2) := by decide +kernel
theorem dX6_named_150 : decode cX6_named 150 = .ok (.aload_n 0, 1) := by decide +kernel
theorem dX6_named_151 : decode cX6_named 151 = .ok (.getfield 18, 3) := by decide +kernel
theorem dX6_named_154 : decode cX6_named 154 = .ok (.aload_n 0, 1) := by decide +kernel
theorem dX6_named_155 : decode cX6_named 155 = .ok (.getfield 47, 3) := by decide +kernel
theorem dX6_named_158 : decode cX6_named 158 = .ok (.iaload, 1) := by decide +kernel
theorem dX6_named_159 : decode cX6_named 159 = .ok (.iadd, 1) := by decide +kernel
theorem dX6_named_160 : decode cX6_named 160 = .ok (.invokevirtual 127, 3) := by decide +kernel
theorem dX6_named_163 : decode cX6_named 163 = .ok (.aload_n 0, 1) := by decide +kernel
theorem dX6_named_164 : decode cX6_named 164 = .ok (.dup, 1) := by decide +kernel
theorem dX6_named_165 : decode cX6_named 165 = .ok (.getfield 47, 3) := by decide +kernel
theorem dX6_named_168 : decode cX6_named 168 = .ok (.iconst 1, 1) := by decide +kernel
theorem dX6_named_169 : decode cX6_named 169 = .ok (.iadd, 1) := by decide +kernel
theorem dX6_named_170 : decode cX6_named 170 = .ok (.putfield 47, 3) := by decide +kernel
theorem dX6_named_173 : decode cX6_named 173 = .ok (.goto 7, 3) := by decide +kernel
theorem dX6_named_176 : decode cX6_named 176 = .ok (.aload_n 0, 1) := by decide +kernel
theorem dX6_named_177 : decode cX6_named 177 = .ok (.invokevirtual 60, 3) := by decide +kernel
theorem dX6_named_180 : decode cX6_named 180 = .ok (.goto 7, 3) := by decide +kernel
theorem dX6_named_183 : decode cX6_named 183 = .ok (.aload_n 0, 1) := by decide +kernel
theorem dX6_named_184 : decode cX6_named 184 = .ok (.invokevirtual 60, 3) := by decide +kernel
theorem dX6_named_187 : decode cX6_named 187 = .ok (.return_, 1) := by decide +kernel
theorem dX6_isLawWord_0 : decode cX6_isLawWord 0 = .ok (.iload_n 0, 1) := by decide +kernel
theorem dX6_isLawWord_1 : decode cX6_isLawWord 1 = .ok (.ifCond .lt 13, 3) := by decide +kernel
theorem dX6_isLawWord_4 : decode cX6_isLawWord 4 = .ok (.iload_n 0, 1) := by decide +kernel
theorem dX6_isLawWord_5 : decode cX6_isLawWord 5 = .ok (.bipush 9, 2) := by decide +kernel
theorem dX6_isLawWord_7 : decode cX6_isLawWord 7 = .ok (.if_icmp .gt 7, 3) := by decide +kernel
theorem dX6_isLawWord_10 : decode cX6_isLawWord 10 = .ok (.iconst 1, 1) := by decide +kernel
theorem dX6_isLawWord_11 : decode cX6_isLawWord 11 = .ok (.goto 4, 3) := by decide +kernel
theorem dX6_isLawWord_14 : decode cX6_isLawWord 14 = .ok (.iconst 0, 1) := by decide +kernel
theorem dX6_isLawWord_15 : decode cX6_isLawWord 15 = .ok (.ireturn, 1) := by decide +kernel
theorem dX6_isOrderWord_0 : decode cX6_isOrderWord 0 = .ok (.iload_n 0, 1) := by decide +kernel
theorem dX6_isOrderWord_1 : decode cX6_isOrderWord 1 = .ok (.bipush 6, 2) := by decide +kernel
theorem dX6_isOrderWord_3 : decode cX6_isOrderWord 3 = .ok (.if_icmp .eq 21, 3) := by decide +kernel
theorem dX6_isOrderWord_6 : decode cX6_isOrderWord 6 = .ok (.iload_n 0, 1) := by decide +kernel
theorem dX6_isOrderWord_7 : decode cX6_isOrderWord 7 = .ok (.bipush 8, 2) := by decide +kernel
theorem dX6_isOrderWord_9 : decode cX6_isOrderWord 9 = .ok (.if_icmp .eq 15, 3) := by decide +kernel
theorem dX6_isOrderWord_12 : decode cX6_isOrderWord 12 = .ok (.iload_n 0, 1) := by decide +kernel
theorem dX6_isOrderWord_13 : decode cX6_isOrderWord 13 = .ok (.bipush 10, 2) := by decide +kernel
theorem dX6_isOrderWord_15 : decode cX6_isOrderWord 15 = .ok (.if_icmp .lt 13, 3) := by decide +kernel
theorem dX6_isOrderWord_18 : decode cX6_isOrderWord 18 = .ok (.iload_n 0, 1) := by decide +kernel
theorem dX6_isOrderWord_19 : decode cX6_isOrderWord 19 = .ok (.bipush 12, 2) := by decide +kernel
theorem dX6_isOrderWord_21 : decode cX6_isOrderWord 21 = .ok (.if_icmp .gt 7, 3) := by decide +kernel
theorem dX6_isOrderWord_24 : decode cX6_isOrderWord 24 = .ok (.iconst 1, 1) := by decide +kernel
theorem dX6_isOrderWord_25 : decode cX6_isOrderWord 25 = .ok (.goto 4, 3) := by decide +kernel
theorem dX6_isOrderWord_28 : decode cX6_isOrderWord 28 = .ok (.iconst 0, 1) := by decide +kernel
theorem dX6_isOrderWord_29 : decode cX6_isOrderWord 29 = .ok (.ireturn, 1) := by decide +kernel
theorem dX6_opened_0 : decode cX6_opened 0 = .ok (.aload_n 0, 1) := by decide +kernel
theorem dX6_opened_1 : decode cX6_opened 1 = .ok (.getfield 57, 3) := by decide +kernel
theorem dX6_opened_4 : decode cX6_opened 4 = .ok (.bipush 8, 2) := by decide +kernel
theorem dX6_opened_6 : decode cX6_opened 6 = .ok (.if_icmp .lt 9, 3) := by decide +kernel
theorem dX6_opened_9 : decode cX6_opened 9 = .ok (.aload_n 0, 1) := by decide +kernel
theorem dX6_opened_10 : decode cX6_opened 10 = .ok (.invokevirtual 60, 3) := by decide +kernel
theorem dX6_opened_13 : decode cX6_opened 13 = .ok (.iconst 0, 1) := by decide +kernel
theorem dX6_opened_14 : decode cX6_opened 14 = .ok (.ireturn, 1) := by decide +kernel
theorem dX6_opened_15 : decode cX6_opened 15 = .ok (.aload_n 0, 1) := by decide +kernel
theorem dX6_opened_16 : decode cX6_opened 16 = .ok (.dup, 1) := by decide +kernel
theorem dX6_opened_17 : decode cX6_opened 17 = .ok (.getfield 57, 3) := by decide +kernel
theorem dX6_opened_20 : decode cX6_opened 20 = .ok (.iconst 1, 1) := by decide +kernel
theorem dX6_opened_21 : decode cX6_opened 21 = .ok (.iadd, 1) := by decide +kernel
theorem dX6_opened_22 : decode cX6_opened 22 = .ok (.putfield 57, 3) := by decide +kernel
theorem dX6_opened_25 : decode cX6_opened 25 = .ok (.aload_n 0, 1) := by decide +kernel
theorem dX6_opened_26 : decode cX6_opened 26 = .ok (.dup, 1) := by decide +kernel
theorem dX6_opened_27 : decode cX6_opened 27 = .ok (.getfield 47, 3) := by decide +kernel
theorem dX6_opened_30 : decode cX6_opened 30 = .ok (.iconst 1, 1) := by decide +kernel
theorem dX6_opened_31 : decode cX6_opened 31 = .ok (.iadd, 1) := by decide +kernel
theorem dX6_opened_32 : decode cX6_opened 32 = .ok (.putfield 47, 3) := by decide +kernel
theorem dX6_opened_35 : decode cX6_opened 35 = .ok (.iconst 1, 1) := by decide +kernel
theorem dX6_opened_36 : decode cX6_opened 36 = .ok (.ireturn, 1) := by decide +kernel
theorem dX6_closed_0 : decode cX6_closed 0 = .ok (.aload_n 0, 1) := by decide +kernel
theorem dX6_closed_1 : decode cX6_closed 1 = .ok (.bipush 100, 2) := by decide +kernel
theorem dX6_closed_3 : decode cX6_closed 3 = .ok (.iload_n 1, 1) := by decide +kernel
theorem dX6_closed_4 : decode cX6_closed 4 = .ok (.iadd, 1) := by decide +kernel
theorem dX6_closed_5 : decode cX6_closed 5 = .ok (.invokevirtual 112, 3) := by decide +kernel
theorem dX6_closed_8 : decode cX6_closed 8 = .ok (.aload_n 0, 1) := by decide +kernel
theorem dX6_closed_9 : decode cX6_closed 9 = .ok (.dup, 1) := by decide +kernel
theorem dX6_closed_10 : decode cX6_closed 10 = .ok (.getfield 57, 3) := by decide +kernel
theorem dX6_closed_13 : decode cX6_closed 13 = .ok (.iconst 1, 1) := by decide +kernel
theorem dX6_closed_14 : decode cX6_closed 14 = .ok (.isub, 1) := by decide +kernel
theorem dX6_closed_15 : decode cX6_closed 15 = .ok (.putfield 57, 3) := by decide +kernel
theorem dX6_closed_18 : decode cX6_closed 18 = .ok (.return_, 1) := by decide +kernel
theorem dX7_init_0 : decode cX7_init 0 = .ok (.aload_n 0, 1) := by decide +kernel
theorem dX7_init_1 : decode cX7_init 1 = .ok (.invokespecial 3, 3) := by decide +kernel
theorem dX7_init_4 : decode cX7_init 4 = .ok (.aload_n 0, 1) := by decide +kernel
theorem dX7_init_5 : decode cX7_init 5 = .ok (.bipush 8, 2) := by decide +kernel
theorem dX7_init_7 : decode cX7_init 7 = .ok (.newarray .int, 2) := by decide +kernel
theorem dX7_init_9 : decode cX7_init 9 = .ok (.putfield 9, 3) := by decide +kernel
theorem dX7_init_12 : decode cX7_init 12 = .ok (.aload_n 0, 1) := by decide +kernel
theorem dX7_init_13 : decode cX7_init 13 = .ok (.bipush 8, 2) := by decide +kernel
theorem dX7_init_15 : decode cX7_init 15 = .ok (.newarray .int, 2) := by decide +kernel
theorem dX7_init_17 : decode cX7_init 17 = .ok (.putfield 15, 3) := by decide +kernel
theorem dX7_init_20 : decode cX7_init 20 = .ok (.aload_n 0, 1) := by decide +kernel
theorem dX7_init_21 : decode cX7_init 21 = .ok (.bipush 8, 2) := by decide +kernel
theorem dX7_init_23 : decode cX7_init 23 = .ok (.newarray .int, 2) := by decide +kernel
theorem dX7_init_25 : decode cX7_init 25 = .ok (.putfield 18, 3) := by decide +kernel
theorem dX7_init_28 : decode cX7_init 28 = .ok (.aload_n 0, 1) := by decide +kernel
theorem dX7_init_29 : decode cX7_init 29 = .ok (.iconst 4, 1) := by decide +kernel
theorem dX7_init_30 : decode cX7_init 30 = .ok (.newarray .int, 2) := by decide +kernel
theorem dX7_init_32 : decode cX7_init 32 = .ok (.putfield 21, 3) := by decide +kernel
theorem dX7_init_35 : decode cX7_init 35 = .ok (.aload_n 0, 1) := by decide +kernel
theorem dX7_init_36 : decode cX7_init 36 = .ok (.bipush 12, 2) := by decide +kernel
theorem dX7_init_38 : decode cX7_init 38 = .ok (.newarray .int, 2) := by decide +kernel
theorem dX7_init_40 : decode cX7_init 40 = .ok (.putfield 24, 3) := by decide +kernel
theorem dX7_init_43 : decode cX7_init 43 = .ok (.aload_n 0, 1) := by decide +kernel
theorem dX7_init_44 : decode cX7_init 44 = .ok (.bipush 6, 2) := by decide +kernel
theorem dX7_init_46 : decode cX7_init 46 = .ok (.newarray .int, 2) := by decide +kernel
theorem dX7_init_48 : decode cX7_init 48 = .ok (.dup, 1) := by decide +kernel
theorem dX7_init_49 : decode cX7_init 49 = .ok (.iconst 0, 1) := by decide +kernel
theorem dX7_init_50 : decode cX7_init 50 = .ok (.bipush 10, 2) := by decide +kernel
theorem dX7_init_52 : decode cX7_init 52 = .ok (.iastore, 1) := by decide +kernel
theorem dX7_init_53 : decode cX7_init 53 = .ok (.dup, 1) := by decide +kernel
theorem dX7_init_54 : decode cX7_init 54 = .ok (.iconst 1, 1) := by decide +kernel
theorem dX7_init_55 : decode cX7_init 55 = .ok (.bipush 10, 2) := by decide +kernel
theorem dX7_init_57 : decode cX7_init 57 = .ok (.iastore, 1) := by decide +kernel
theorem dX7_init_58 : decode cX7_init 58 = .ok (.dup, 1) := by decide +kernel
theorem dX7_init_59 : decode cX7_init 59 = .ok (.iconst 2, 1) := by decide +kernel
theorem dX7_init_60 : decode cX7_init 60 = .ok (.bipush 10, 2) := by decide +kernel
theorem dX7_init_62 : decode cX7_init 62 = .ok (.iastore, 1) := by decide +kernel
theorem dX7_init_63 : decode cX7_init 63 = .ok (.dup, 1) := by decide +kernel
theorem dX7_init_64 : decode cX7_init 64 = .ok (.iconst 3, 1) := by decide +kernel
theorem dX7_init_65 : decode cX7_init 65 = .ok (.bipush 10, 2) := by decide +kernel
theorem dX7_init_67 : decode cX7_init 67 = .ok (.iastore, 1) := by decide +kernel
theorem dX7_init_68 : decode cX7_init 68 = .ok (.dup, 1) := by decide +kernel
theorem dX7_init_69 : decode cX7_init 69 = .ok (.iconst 4, 1) := by decide +kernel
theorem dX7_init_70 : decode cX7_init 70 = .ok (.bipush 10, 2) := by decide +kernel
theorem dX7_init_72 : decode cX7_init 72 = .ok (.iastore, 1) := by decide +kernel
theorem dX7_init_73 : decode cX7_init 73 = .ok (.dup, 1) := by decide +kernel
theorem dX7_init_74 : decode cX7_init 74 = .ok (.iconst 5, 1) := by decide +kernel
theorem dX7_init_75 : decode cX7_init 75 = .ok (.bipush 10, 2) := by decide +kernel
theorem dX7_init_77 : decode cX7_init 77 = .ok (.iastore, 1) := by decide +kernel
theorem dX7_init_78 : decode cX7_init 78 = .ok (.putfield 27, 3) := by decide +kernel
theorem dX7_init_81 : decode cX7_init 81 = .ok (.aload_n 0, 1) := by decide +kernel
theorem dX7_init_82 : decode cX7_init 82 = .ok (.iconst 3, 1) := by decide +kernel
theorem dX7_init_83 : decode cX7_init 83 = .ok (.newarray .int, 2) := by decide +kernel
theorem dX7_init_85 : decode cX7_init 85 = .ok (.dup, 1) := by decide +kernel
theorem dX7_init_86 : decode cX7_init 86 = .ok (.iconst 0, 1) := by decide +kernel
theorem dX7_init_87 : decode cX7_init 87 = .ok (.iconst 0, 1) := by decide +kernel
theorem dX7_init_88 : decode cX7_init 88 = .ok (.iastore, 1) := by decide +kernel
theorem dX7_init_89 : decode cX7_init 89 = .ok (.dup, 1) := by decide +kernel
theorem dX7_init_90 : decode cX7_init 90 = .ok (.iconst 1, 1) := by decide +kernel
theorem dX7_init_91 : decode cX7_init 91 = .ok (.sipush 200, 3) := by decide +kernel
theorem dX7_init_94 : decode cX7_init 94 = .ok (.iastore, 1) := by decide +kernel
theorem dX7_init_95 : decode cX7_init 95 = .ok (.dup, 1) := by decide +kernel
theorem dX7_init_96 : decode cX7_init 96 = .ok (.iconst 2, 1) := by decide +kernel
theorem dX7_init_97 : decode cX7_init 97 = .ok (.iconst 0, 1) := by decide +kernel
theorem dX7_init_98 : decode cX7_init 98 = .ok (.iastore, 1) := by decide +kernel
theorem dX7_init_99 : decode cX7_init 99 = .ok (.putfield 30, 3) := by decide +kernel
theorem dX7_init_102 : decode cX7_init 102 = .ok (.aload_n 0, 1) := by decide +kernel
theorem dX7_init_103 : decode cX7_init 103 = .ok (.bipush 8, 2) := by decide +kernel
theorem dX7_init_105 : decode cX7_init 105 = .ok (.newarray .int, 2) := by decide +kernel
theorem dX7_init_107 : decode cX7_init 107 = .ok (.putfield 33, 3) := by decide +kernel
theorem dX7_init_110 : decode cX7_init 110 = .ok (.aload_n 0, 1) := by decide +kernel
theorem dX7_init_111 : decode cX7_init 111 = .ok (.bipush 8, 2) := by decide +kernel
theorem dX7_init_113 : decode cX7_init 113 = .ok (.newarray .int, 2) := by decide +kernel
theorem dX7_init_115 : decode cX7_init 115 = .ok (.putfield 36, 3) := by decide +kernel
theorem dX7_init_118 : decode cX7_init 118 = .ok (.aload_n 0, 1) := by decide +kernel
theorem dX7_init_119 : decode cX7_init 119 = .ok (.bipush 6, 2) := by decide +kernel
theorem dX7_init_121 : decode cX7_init 121 = .ok (.anewarray 39, 3) := by decide +kernel
theorem dX7_init_124 : decode cX7_init 124 = .ok (.putfield 41, 3) := by decide +kernel
theorem dX7_init_127 : decode cX7_init 127 = .ok (.aload_n 0, 1) := by decide +kernel
theorem dX7_init_128 : decode cX7_init 128 = .ok (.iconst (-1), 1) := by decide +kernel
theorem dX7_init_129 : decode cX7_init 129 = .ok (.putfield 45, 3) := by decide +kernel
theorem dX7_init_132 : decode cX7_init 132 = .ok (.return_, 1) := by decide +kernel
theorem dX7_groundCanBe_0 : decode cX7_groundCanBe 0 = .ok (.iload_n 0, 1) := by decide +kernel
theorem dX7_groundCanBe_1 : decode cX7_groundCanBe 1 = .ok (.ifCond .lt 53, 3) := by decide +kernel
theorem dX7_groundCanBe_4 : decode cX7_groundCanBe 4 = .ok (.iload_n 0, 1) := by decide +kernel
theorem dX7_groundCanBe_5 : decode cX7_groundCanBe 5 = .ok (.bipush 99, 2) := by decide +kernel
theorem dX7_groundCanBe_7 : decode cX7_groundCanBe 7 = .ok (.if_icmp .gt 47, 3) := by decide +kernel
theorem dX7_groundCanBe_10 : decode cX7_groundCanBe 10 = .ok (.iload_n 1, 1) := by decide +kernel
theorem dX7_groundCanBe_11 : decode cX7_groundCanBe 11 = .ok (.ifCond .lt 43, 3) := by decide +kernel
theorem dX7_groundCanBe_14 : decode cX7_groundCanBe 14 = .ok (.iload_n 1, 1) := by decide +kernel
theorem dX7_groundCanBe_15 : decode cX7_groundCanBe 15 = .ok (.bipush 10, 2) := by decide +kernel
theorem dX7_groundCanBe_17 : decode cX7_groundCanBe 17 = .ok (.if_icmp .gt 37, 3) := by decide +kernel
theorem dX7_groundCanBe_20 : decode cX7_groundCanBe 20 = .ok (.iload_n 2, 1) := by decide +kernel
theorem dX7_groundCanBe_21 : decode cX7_groundCanBe 21 = .ok (.ifCond .lt 33, 3) := by decide +kernel
theorem dX7_groundCanBe_24 : decode cX7_groundCanBe 24 = .ok (.iload_n 2, 1) := by decide +kernel
theorem dX7_groundCanBe_25 : decode cX7_groundCanBe 25 = .ok (.bipush 10, 2) := by decide +kernel
theorem dX7_groundCanBe_27 : decode cX7_groundCanBe 27 = .ok (.if_icmp .gt 27, 3) := by decide +kernel
theorem dX7_groundCanBe_30 : decode cX7_groundCanBe 30 = .ok (.iload_n 3, 1) := by decide +kernel
theorem dX7_groundCanBe_31 : decode cX7_groundCanBe 31 = .ok (.ifCond .lt 23, 3) := by decide +kernel
theorem dX7_groundCanBe_34 : decode cX7_groundCanBe 34 = .ok (.iload_n 3, 1) := by decide +kernel
theorem dX7_groundCanBe_35 : decode cX7_groundCanBe 35 = .ok (.bipush 10, 2) := by decide +kernel
theorem dX7_groundCanBe_37 : decode cX7_groundCanBe 37 = .ok (.if_icmp .gt 17, 3) := by decide +kernel
theorem dX7_groundCanBe_40 : decode cX7_groundCanBe 40 = .ok (.iload_n 1, 1) := by decide +kernel
theorem dX7_groundCanBe_41 : decode cX7_groundCanBe 41 = .ok (.iload_n 2, 1) := by decide +kernel
theorem dX7_groundCanBe_42 : decode cX7_groundCanBe 42 = .ok (.iadd, 1) := by decide +kernel
theorem dX7_groundCanBe_43 : decode cX7_groundCanBe 43 = .ok (.iload_n 3, 1) := by decide +kernel
theorem dX7_groundCanBe_44 : decode cX7_groundCanBe 44 = .ok (.iadd, 1) := by decide +kernel
theorem dX7_groundCanBe_45 : decode cX7_groundCanBe 45 = .ok (.bipush 10, 2) := by decide +kernel
theorem dX7_groundCanBe_47 : decode cX7_groundCanBe 47 = .ok (.if_icmp .gt 7, 3) := by decide +kernel
theorem dX7_groundCanBe_50 : decode cX7_groundCanBe 50 = .ok (.iconst 1, 1) := by decide +kernel
theorem dX7_groundCanBe_51 : decode cX7_groundCanBe 51 = .ok (.goto 4, 3) := by decide +kernel
theorem dX7_groundCanBe_54 : decode cX7_groundCanBe 54 = .ok (.iconst 0, 1) := by decide +kernel
theorem dX7_groundCanBe_55 : decode cX7_groundCanBe 55 = .ok (.ireturn, 1) := by decide +kernel
theorem dX7_become_0 : decode cX7_become 0 = .ok (.aload_n 0, 1) := by decide +kernel
theorem dX7_become_1 : decode cX7_become 1 = .ok (.aload_n 1, 1) := by decide +kernel
theorem dX7_become_2 : decode cX7_become 2 = .ok (.getfield 49, 3) := by decide +kernel
theorem dX7_become_5 : decode cX7_become 5 = .ok (.putfield 49, 3) := by decide +kernel
theorem dX7_become_8 : decode cX7_become 8 = .ok (.aload_n 1, 1) := by decide +kernel
theorem dX7_become_9 : decode cX7_become 9 = .ok (.getfield 9, 3) := by decide +kernel
theorem dX7_become_12 : decode cX7_become 12 = .ok (.iconst 0, 1) := by decide +kernel
theorem dX7_become_13 : decode cX7_become 13 = .ok (.aload_n 0, 1) := by decide +kernel
theorem dX7_become_14 : decode cX7_become 14 = .ok (.getfield 9, 3) := by decide +kernel
theorem dX7_become_17 : decode cX7_become 17 = .ok (.iconst 0, 1) := by decide +kernel
theorem dX7_become_18 : decode cX7_become 18 = .ok (.bipush 8, 2) := by decide +kernel
theorem dX7_become_20 : decode cX7_become 20 = .ok (.invokestatic 52, 3) := by decide +kernel
theorem dX7_become_23 : decode cX7_become 23 = .ok (.aload_n 1, 1) := by decide +kernel
theorem dX7_become_24 : decode cX7_become 24 = .ok (.getfield 15, 3) := by decide +kernel
theorem dX7_become_27 : decode cX7_become 27 = .ok (.iconst 0, 1) := by decide +kernel
theorem dX7_become_28 : decode cX7_become 28 = .ok (.aload_n 0, 1) := by decide +kernel
theorem dX7_become_29 : decode cX7_become 29 = .ok (.getfield 15, 3) := by decide +kernel
theorem dX7_become_32 : decode cX7_become 32 = .ok (.iconst 0, 1) := by decide +kernel
theorem dX7_become_33 : decode cX7_become 33 = .ok (.bipush 8, 2) := by decide +kernel
theorem dX7_become_35 : decode cX7_become 35 = .ok (.invokestatic 52, 3) := by decide +kernel
theorem dX7_become_38 : decode cX7_become 38 = .ok (.aload_n 1, 1) := by decide +kernel
theorem dX7_become_39 : decode cX7_become 39 = .ok (.getfield 18, 3) := by decide +kernel
theorem dX7_become_42 : decode cX7_become 42 = .ok (.iconst 0, 1) := by decide +kernel
theorem dX7_become_43 : decode cX7_become 43 = .ok (.aload_n 0, 1) := by decide +kernel
theorem dX7_become_44 : decode cX7_become 44 = .ok (.getfield 18, 3) := by decide +kernel
theorem dX7_become_47 : decode cX7_become 47 = .ok (.iconst 0, 1) := by decide +kernel
theorem dX7_become_48 : decode cX7_become 48 = .ok (.bipush 8, 2) := by decide +kernel
theorem dX7_become_50 : decode cX7_become 50 = .ok (.invokestatic 52, 3) := by decide +kernel
theorem dX7_become_53 : decode cX7_become 53 = .ok (.aload_n 0, 1) := by decide +kernel
theorem dX7_become_54 : decode cX7_become 54 = .ok (.aload_n 1, 1) := by decide +kernel
theorem dX7_become_55 : decode cX7_become 55 = .ok (.getfield 58, 3) := by decide +kernel
theorem dX7_become_58 : decode cX7_become 58 = .ok (.putfield 58, 3) := by decide +kernel
theorem dX7_become_61 : decode cX7_become 61 = .ok (.aload_n 0, 1) := by decide +kernel
theorem dX7_become_62 : decode cX7_become 62 = .ok (.aload_n 1, 1) := by decide +kernel
theorem dX7_become_63 : decode cX7_become 63 = .ok (.getfield 61, 3) := by decide +kernel
theorem dX7_become_66 : decode cX7_become 66 = .ok (.putfield 61, 3) := by decide +kernel
theorem dX7_become_69 : decode cX7_become 69 = .ok (.aload_n 1, 1) := by decide +kernel
theorem dX7_become_70 : decode cX7_become 70 = .ok (.getfield 21, 3) := by decide +kernel
theorem dX7_become_73 : decode cX7_become 73 = .ok (.iconst 0, 1) := by decide +kernel
theorem dX7_become_74 : decode cX7_become 74 = .ok (.aload_n 0, 1) := by decide +kernel
theorem dX7_become_75 : decode cX7_become 75 = .ok (.getfield 21, 3) := by decide +kernel
theorem dX7_become_78 : decode cX7_become 78 = .ok (.iconst 0, 1) := by decide +kernel
theorem dX7_become_79 : decode cX7_become 79 = .ok (.iconst 4, 1) := by decide +kernel
theorem dX7_become_80 : decode cX7_become 80 = .ok (.invokestatic 52, 3) := by decide +kernel
theorem dX7_become_83 : decode cX7_become 83 = .ok (.aload_n 1, 1) := by decide +kernel
theorem dX7_become_84 : decode cX7_become 84 = .ok (.getfield 24, 3) := by decide +kernel
theorem dX7_become_87 : decode cX7_become 87 = .ok (.iconst 0, 1) := by decide +kernel
theorem dX7_become_88 : decode cX7_become 88 = .ok (.aload_n 0, 1) := by decide +kernel
theorem dX7_become_89 : decode cX7_become 89 = .ok (.getfield 24, 3) := by decide +kernel
theorem dX7_become_92 : decode cX7_become 92 = .ok (.iconst 0, 1) := by decide +kernel
theorem dX7_become_93 : decode cX7_become 93 = .ok (.bipush 12, 2) := by decide +kernel
theorem dX7_become_95 : decode cX7_become 95 = .ok (.invokestatic 52, 3) := by decide +kernel
theorem dX7_become_98 : decode cX7_become 98 = .ok (.aload_n 0, 1) := by decide +kernel
theorem dX7_become_99 : decode cX7_become 99 = .ok (.aload_n 1, 1) := by decide +kernel
theorem dX7_become_100 : decode cX7_become 100 = .ok (.getfield 64, 3) := by decide +kernel
theorem dX7_become_103 : decode cX7_become 103 = .ok (.putfield 64, 3) := by decide +kernel
theorem dX7_become_106 : decode cX7_become 106 = .ok (.aload_n 0, 1) := by decide +kernel
theorem dX7_become_107 : decode cX7_become 107 = .ok (.aload_n 1, 1) := by decide +kernel
theorem dX7_become_108 : decode cX7_become 108 = .ok (.getfield 67, 3) := by decide +kernel
theorem dX7_become_111 : decode cX7_become 111 = .ok (.putfield 67, 3) := by decide +kernel
theorem dX7_become_114 : decode cX7_become 114 = .ok (.aload_n 1, 1) := by decide +kernel
theorem dX7_become_115 : decode cX7_become 115 = .ok (.getfield 27, 3) := by decide +kernel
theorem dX7_become_118 : decode cX7_become 118 = .ok (.iconst 0, 1) := by decide +kernel
theorem dX7_become_119 : decode cX7_become 119 = .ok (.aload_n 0, 1) := by decide +kernel
theorem dX7_become_120 : decode cX7_become 120 = .ok (.getfield 27, 3) := by decide +kernel
theorem dX7_become_123 : decode cX7_become 123 = .ok (.iconst 0, 1) := by decide +kernel
theorem dX7_become_124 : decode cX7_become 124 = .ok (.bipush 6, 2) := by decide +kernel
theorem dX7_become_126 : decode cX7_become 126 = .ok (.invokestatic 52, 3) := by decide +kernel
theorem dX7_become_129 : decode cX7_become 129 = .ok (.aload_n 1, 1) := by decide +kernel
theorem dX7_become_130 : decode cX7_become 130 = .ok (.getfield 30, 3) := by decide +kernel
theorem dX7_become_133 : decode cX7_become 133 = .ok (.iconst 0, 1) := by decide +kernel
theorem dX7_become_134 : decode cX7_become 134 = .ok (.aload_n 0, 1) := by decide +kernel
theorem dX7_become_135 : decode cX7_become 135 = .ok (.getfield 30, 3) := by decide +kernel
theorem dX7_become_138 : decode cX7_become 138 = .ok (.iconst 0, 1) := by decide +kernel
theorem dX7_become_139 : decode cX7_become 139 = .ok (.iconst 3, 1) := by decide +kernel
theorem dX7_become_140 : decode cX7_become 140 = .ok (.invokestatic 52, 3) := by decide +kernel
theorem dX7_become_143 : decode cX7_become 143 = .ok (.aload_n 0, 1) := by decide +kernel
theorem dX7_become_144 : decode cX7_become 144 = .ok (.aload_n 1, 1) := by decide +kernel
theorem dX7_become_145 : decode cX7_become 145 = .ok (.getfield 70, 3) := by decide +kernel
theorem dX7_become_148 : decode cX7_become 148 = .ok (.putfield 70, 3) := by decide +kernel
theorem dX7_become_151 : decode cX7_become 151 = .ok (.aload_n 1, 1) := by decide +kernel
theorem dX7_become_152 : decode cX7_become 152 = .ok (.getfield 33, 3) := by decide +kernel
theorem dX7_become_155 : decode cX7_become 155 = .ok (.iconst 0, 1) := by decide +kernel
theorem dX7_become_156 : decode cX7_become 156 = .ok (.aload_n 0, 1) := by decide +kernel
theorem dX7_become_157 : decode cX7_become 157 = .ok (.getfield 33, 3) := by decide +kernel
theorem dX7_become_160 : decode cX7_become 160 = .ok (.iconst 0, 1) := by decide +kernel
theorem dX7_become_161 : decode cX7_become 161 = .ok (.bipush 8, 2) := by decide +kernel
theorem dX7_become_163 : decode cX7_become 163 = .ok (.invokestatic 52, 3) := by decide +kernel
theorem dX7_become_166 : decode cX7_become 166 = .ok (.aload_n 1, 1) := by decide +kernel
theorem dX7_become_167 : decode cX7_become 167 = .ok (.getfield 36, 3) := by decide +kernel
theorem dX7_become_170 : decode cX7_become 170 = .ok (.iconst 0, 1) := by decide +kernel
theorem dX7_become_171 : decode cX7_become 171 = .ok (.aload_n 0, 1) := by decide +kernel
theorem dX7_become_172 : decode cX7_become 172 = .ok (.getfield 36, 3) := by decide +kernel
theorem dX7_become_175 : decode cX7_become 175 = .ok (.iconst 0, 1) := by decide +kernel
theorem dX7_become_176 : decode cX7_become 176 = .ok (.bipush 8, 2) := by decide +kernel
theorem dX7_become_178 : decode cX7_become 178 = .ok (.invokestatic 52, 3) := by decide +kernel
theorem dX7_become_181 : decode cX7_become 181 = .ok (.aload_n 0, 1) := by decide +kernel
theorem dX7_become_182 : decode cX7_become 182 = .ok (.aload_n 1, 1) := by decide +kernel
theorem dX7_become_183 : decode cX7_become 183 = .ok (.getfield 73, 3) := by decide +kernel
theorem dX7_become_186 : decode cX7_become 186 = .ok (.putfield 73, 3) := by decide +kernel
theorem dX7_become_189 : decode cX7_become 189 = .ok (.iconst 0, 1) := by decide +kernel
theorem dX7_become_190 : decode cX7_become 190 = .ok (.istore_n 2, 1) := by decide +kernel
theorem dX7_become_191 : decode cX7_become 191 = .ok (.iload_n 2, 1) := by decide +kernel
theorem dX7_become_192 : decode cX7_become 192 = .ok (.bipush 6, 2) := by decide +kernel
theorem dX7_become_194 : decode cX7_become 194 = .ok (.if_icmp .ge 21, 3) := by decide +kernel
theorem dX7_become_197 : decode cX7_become 197 = .ok (.aload_n 0, 1) := by decide +kernel
theorem dX7_become_198 : decode cX7_become 198 = .ok (.getfield 41, 3) := by decide +kernel
theorem dX7_become_201 : decode cX7_become 201 = .ok (.iload_n 2, 1) := by decide +kernel
theorem dX7_become_202 : decode cX7_become 202 = .ok (.aload_n 1, 1) := by decide +kernel
theorem dX7_become_203 : decode cX7_become 203 = .ok (.getfield 41, 3) := by decide +kernel
theorem dX7_become_206 : decode cX7_become 206 = .ok (.iload_n 2, 1) := by decide +kernel
theorem dX7_become_207 : decode cX7_become 207 = .ok (.aaload, 1) := by decide +kernel
theorem dX7_become_208 : decode cX7_become 208 = .ok (.aastore, 1) := by decide +kernel
theorem dX7_become_209 : decode cX7_become 209 = .ok (.iinc 2 1, 3) := by decide +kernel
theorem dX7_become_212 : decode cX7_become 212 = .ok (.goto (-21), 3) := by decide +kernel
theorem dX7_become_215 : decode cX7_become 215 = .ok (.aload_n 0, 1) := by decide +kernel
theorem dX7_become_216 : decode cX7_become 216 = .ok (.aload_n 1, 1) := by decide +kernel
theorem dX7_become_217 : decode cX7_become 217 = .ok (.getfield 45, 3) := by decide +kernel
theorem dX7_become_220 : decode cX7_become 220 = .ok (.putfield 45, 3) := by decide +kernel
theorem dX7_become_223 : decode cX7_become 223 = .ok (.return_, 1) := by decide +kernel
theorem dX7_hasHand_0 : decode cX7_hasHand 0 = .ok (.iload_n 1, 1) := by decide +kernel
theorem dX7_hasHand_1 : decode cX7_hasHand 1 = .ok (.ifCond .lt 15, 3) := by decide +kernel
theorem dX7_hasHand_4 : decode cX7_hasHand 4 = .ok (.iload_n 1, 1) := by decide +kernel
theorem dX7_hasHand_5 : decode cX7_hasHand 5 = .ok (.aload_n 0, 1) := by decide +kernel
theorem dX7_hasHand_6 : decode cX7_hasHand 6 = .ok (.getfield 49, 3) := by decide +kernel
theorem dX7_hasHand_9 : decode cX7_hasHand 9 = .ok (.if_icmp .ge 7, 3) := by decide +kernel
theorem dX7_hasHand_12 : decode cX7_hasHand 12 = .ok (.iconst 1, 1) := by decide +kernel
theorem dX7_hasHand_13 : decode cX7_hasHand 13 = .ok (.goto 4, 3) := by decide +kernel
theorem dX7_hasHand_16 : decode cX7_hasHand 16 = .ok (.iconst 0, 1) := by decide +kernel
theorem dX7_hasHand_17 : decode cX7_hasHand 17 = .ok (.ireturn, 1) := by decide +kernel
theorem dX7_hasGround_0 : decode cX7_hasGround 0 = .ok (.iload_n 1, 1) := by decide +kernel
theorem dX7_hasGround_1 : decode cX7_hasGround 1 = .ok (.ifCond .lt 15, 3) := by decide +kernel
theorem dX7_hasGround_4 : decode cX7_hasGround 4 = .ok (.iload_n 1, 1) := by decide +kernel
theorem dX7_hasGround_5 : decode cX7_hasGround 5 = .ok (.aload_n 0, 1) := by decide +kernel
theorem dX7_hasGround_6 : decode cX7_hasGround 6 = .ok (.getfield 61, 3) := by decide +kernel
theorem dX7_hasGround_9 : decode cX7_hasGround 9 = .ok (.if_icmp .ge 7, 3) := by decide +kernel
theorem dX7_hasGround_12 : decode cX7_hasGround 12 = .ok (.iconst 1, 1) := by decide +kernel
theorem dX7_hasGround_13 : decode cX7_hasGround 13 = .ok (.goto 4, 3) := by decide +kernel
theorem dX7_hasGround_16 : decode cX7_hasGround 16 = .ok (.iconst 0, 1) := by decide +kernel
theorem dX7_hasGround_17 : decode cX7_hasGround 17 = .ok (.ireturn, 1) := by decide +kernel
theorem dX7_isAboard_0 : decode cX7_isAboard 0 = .ok (.aload_n 0, 1) := by decide +kernel
theorem dX7_isAboard_1 : decode cX7_isAboard 1 = .ok (.getfield 58, 3) := by decide +kernel
theorem dX7_isAboard_4 : decode cX7_isAboard 4 = .ok (.iload_n 1, 1) := by decide +kernel
theorem dX7_isAboard_5 : decode cX7_isAboard 5 = .ok (.ishr, 1) := by decide +kernel
theorem dX7_isAboard_6 : decode cX7_isAboard 6 = .ok (.iconst 1, 1) := by decide +kernel
theorem dX7_isAboard_7 : decode cX7_isAboard 7 = .ok (.iand, 1) := by decide +kernel
theorem dX7_isAboard_8 : decode cX7_isAboard 8 = .ok (.iconst 1, 1) := by decide +kernel
theorem dX7_isAboard_9 : decode cX7_isAboard 9 = .ok (.if_icmp .ne 7, 3) := by decide +kernel
theorem dX7_isAboard_12 : decode cX7_isAboard 12 = .ok (.iconst 1, 1) := by decide +kernel
theorem dX7_isAboard_13 : decode cX7_isAboard 13 = .ok (.goto 4, 3) := by decide +kernel
theorem dX7_isAboard_16 : decode cX7_isAboard 16 = .ok (.iconst 0, 1) := by decide +kernel
theorem dX7_isAboard_17 : decode cX7_isAboard 17 = .ok (.ireturn, 1) := by decide +kernel
theorem dX7_crewSize_0 : decode cX7_crewSize 0 = .ok (.aload_n 0, 1) := by decide +kernel
theorem dX7_crewSize_1 : decode cX7_crewSize 1 = .ok (.getfield 58, 3) := by decide +kernel
theorem dX7_crewSize_4 : decode cX7_crewSize 4 = .ok (.invokestatic 76, 3) := by decide +kernel
theorem dX7_crewSize_7 : decode cX7_crewSize 7 = .ok (.ireturn, 1) := by decide +kernel
theorem dX7_enlist_0 : decode cX7_enlist 0 = .ok (.aload_n 0, 1) := by decide +kernel
theorem dX7_enlist_1 : decode cX7_enlist 1 = .ok (.getfield 49, 3) := by decide +kernel
theorem dX7_enlist_4 : decode cX7_enlist 4 = .ok (.istore_n 3, 1) := by decide +kernel
theorem dX7_enlist_5 : decode cX7_enlist 5 = .ok (.aload_n 0, 1) := by decide +kernel
theorem dX7_enlist_6 : decode cX7_enlist 6 = .ok (.getfield 9, 3) := by decide +kernel
theorem dX7_enlist_9 : decode cX7_enlist 9 = .ok (.iload_n 3, 1) := by decide +kernel
theorem dX7_enlist_10 : decode cX7_enlist 10 = .ok (.iload_n 1, 1) := by decide +kernel
theorem dX7_enlist_11 : decode cX7_enlist 11 = .ok (.iastore, 1) := by decide +kernel
theorem dX7_enlist_12 : decode cX7_enlist 12 = .ok (.aload_n 0, 1) := by decide +kernel
theorem dX7_enlist_13 : decode cX7_enlist 13 = .ok (.getfield 15, 3) := by decide +kernel
theorem dX7_enlist_16 : decode cX7_enlist 16 = .ok (.iload_n 3, 1) := by decide +kernel
