theorem dX11_passes0_24 : decode cX11_passes0 24 = .ok (.getfield 249, 3) := by decide +kernel
theorem dX11_passes0_27 : decode cX11_passes0 27 = .ok (.iconst 1, 1) := by decide +kernel
theorem dX11_passes0_28 : decode cX11_passes0 28 = .ok (.iadd, 1) := by decide +kernel
theorem dX11_passes0_29 : decode cX11_passes0 29 = .ok (.putfield 249, 3) := by decide +kernel
theorem dX11_passes0_32 : decode cX11_passes0 32 = .ok (.iload_n 2, 1) := by decide +kernel
theorem dX11_passes0_33 : decode cX11_passes0 33 = .ok (.ireturn, 1) := by decide +kernel
theorem dX11_bounded_0 : decode cX11_bounded 0 = .ok (.iload_n 3, 1) := by decide +kernel
theorem dX11_bounded_1 : decode cX11_bounded 1 = .ok (.ifCond .eq 24, 3) := by decide +kernel
theorem dX11_bounded_4 : decode cX11_bounded 4 = .ok (.lload_n 1, 1) := by decide +kernel
theorem dX11_bounded_5 : decode cX11_bounded 5 = .ok (.ldc2_w 255, 3) := by decide +kernel
theorem dX11_bounded_8 : decode cX11_bounded 8 = .ok (.lcmp, 1) := by decide +kernel
theorem dX11_bounded_9 : decode cX11_bounded 9 = .ok (.ifCond .gt 11, 3) := by decide +kernel
theorem dX11_bounded_12 : decode cX11_bounded 12 = .ok (.lload_n 1, 1) := by decide +kernel
theorem dX11_bounded_13 : decode cX11_bounded 13 = .ok (.ldc2_w 257, 3) := by decide +kernel
theorem dX11_bounded_16 : decode cX11_bounded 16 = .ok (.lcmp, 1) := by decide +kernel
theorem dX11_bounded_17 : decode cX11_bounded 17 = .ok (.ifCond .ge 8, 3) := by decide +kernel
theorem dX11_bounded_20 : decode cX11_bounded 20 = .ok (.aload_n 0, 1) := by decide +kernel
theorem dX11_bounded_21 : decode cX11_bounded 21 = .ok (.iconst 1, 1) := by decide +kernel
theorem dX11_bounded_22 : decode cX11_bounded 22 = .ok (.putfield 259, 3) := by decide +kernel
theorem dX11_bounded_25 : decode cX11_bounded 25 = .ok (.aload_n 0, 1) := by decide +kernel
theorem dX11_bounded_26 : decode cX11_bounded 26 = .ok (.getfield 259, 3) := by decide +kernel
theorem dX11_bounded_29 : decode cX11_bounded 29 = .ok (.ifCond .eq 7, 3) := by decide +kernel
theorem dX11_bounded_32 : decode cX11_bounded 32 = .ok (.lconst 0, 1) := by decide +kernel
theorem dX11_bounded_33 : decode cX11_bounded 33 = .ok (.goto 4, 3) := by decide +kernel
theorem dX11_bounded_36 : decode cX11_bounded 36 = .ok (.lload_n 1, 1) := by decide +kernel
theorem dX11_bounded_37 : decode cX11_bounded 37 = .ok (.lreturn, 1) := by decide +kernel
theorem dX11_sumOf_0 : decode cX11_sumOf 0 = .ok (.aload_n 0, 1) := by decide +kernel
theorem dX11_sumOf_1 : decode cX11_sumOf 1 = .ok (.iload_n 1, 1) := by decide +kernel
theorem dX11_sumOf_2 : decode cX11_sumOf 2 = .ok (.invokevirtual 262, 3) := by decide +kernel
theorem dX11_sumOf_5 : decode cX11_sumOf 5 = .ok (.lstore_n 2, 1) := by decide +kernel
theorem dX11_sumOf_6 : decode cX11_sumOf 6 = .ok (.aload_n 0, 1) := by decide +kernel
theorem dX11_sumOf_7 : decode cX11_sumOf 7 = .ok (.aload_n 0, 1) := by decide +kernel
theorem dX11_sumOf_8 : decode cX11_sumOf 8 = .ok (.getfield 249, 3) := by decide +kernel
theorem dX11_sumOf_11 : decode cX11_sumOf 11 = .ok (.invokevirtual 252, 3) := by decide +kernel
theorem dX11_sumOf_14 : decode cX11_sumOf 14 = .ok (.bipush 43, 2) := by decide +kernel
theorem dX11_sumOf_16 : decode cX11_sumOf 16 = .ok (.invokestatic 211, 3) := by decide +kernel
theorem dX11_sumOf_19 : decode cX11_sumOf 19 = .ok (.if_icmp .eq 19, 3) := by decide +kernel
theorem dX11_sumOf_22 : decode cX11_sumOf 22 = .ok (.aload_n 0, 1) := by decide +kernel
theorem dX11_sumOf_23 : decode cX11_sumOf 23 = .ok (.aload_n 0, 1) := by decide +kernel
theorem dX11_sumOf_24 : decode cX11_sumOf 24 = .ok (.getfield 249, 3) := by decide +kernel
theorem dX11_sumOf_27 : decode cX11_sumOf 27 = .ok (.invokevirtual 252, 3) := by decide +kernel
theorem dX11_sumOf_30 : decode cX11_sumOf 30 = .ok (.bipush 45, 2) := by decide +kernel
theorem dX11_sumOf_32 : decode cX11_sumOf 32 = .ok (.invokestatic 211, 3) := by decide +kernel
theorem dX11_sumOf_35 : decode cX11_sumOf 35 = .ok (.if_icmp .ne 68, 3) := by decide +kernel
theorem dX11_sumOf_38 : decode cX11_sumOf 38 = .ok (.aload_n 0, 1) := by decide +kernel
theorem dX11_sumOf_39 : decode cX11_sumOf 39 = .ok (.aload_n 0, 1) := by decide +kernel
theorem dX11_sumOf_40 : decode cX11_sumOf 40 = .ok (.getfield 249, 3) := by decide +kernel
theorem dX11_sumOf_43 : decode cX11_sumOf 43 = .ok (.invokevirtual 252, 3) := by decide +kernel
theorem dX11_sumOf_46 : decode cX11_sumOf 46 = .ok (.bipush 43, 2) := by decide +kernel
theorem dX11_sumOf_48 : decode cX11_sumOf 48 = .ok (.invokestatic 211, 3) := by decide +kernel
theorem dX11_sumOf_51 : decode cX11_sumOf 51 = .ok (.if_icmp .ne 7, 3) := by decide +kernel
theorem dX11_sumOf_54 : decode cX11_sumOf 54 = .ok (.iconst 1, 1) := by decide +kernel
theorem dX11_sumOf_55 : decode cX11_sumOf 55 = .ok (.goto 4, 3) := by decide +kernel
theorem dX11_sumOf_58 : decode cX11_sumOf 58 = .ok (.iconst 0, 1) := by decide +kernel
theorem dX11_sumOf_59 : decode cX11_sumOf 59 = .ok (.istore 4, 2) := by decide +kernel
theorem dX11_sumOf_61 : decode cX11_sumOf 61 = .ok (.aload_n 0, 1) := by decide +kernel
theorem dX11_sumOf_62 : decode cX11_sumOf 62 = .ok (.dup, 1) := by decide +kernel
theorem dX11_sumOf_63 : decode cX11_sumOf 63 = .ok (.getfield 249, 3) := by decide +kernel
theorem dX11_sumOf_66 : decode cX11_sumOf 66 = .ok (.iconst 1, 1) := by decide +kernel
theorem dX11_sumOf_67 : decode cX11_sumOf 67 = .ok (.iadd, 1) := by decide +kernel
theorem dX11_sumOf_68 : decode cX11_sumOf 68 = .ok (.putfield 249, 3) := by decide +kernel
theorem dX11_sumOf_71 : decode cX11_sumOf 71 = .ok (.aload_n 0, 1) := by decide +kernel
theorem dX11_sumOf_72 : decode cX11_sumOf 72 = .ok (.iload_n 1, 1) := by decide +kernel
theorem dX11_sumOf_73 : decode cX11_sumOf 73 = .ok (.invokevirtual 262, 3) := by decide +kernel
theorem dX11_sumOf_76 : decode cX11_sumOf 76 = .ok (.lstore 5, 2) := by decide +kernel
theorem dX11_sumOf_78 : decode cX11_sumOf 78 = .ok (.aload_n 0, 1) := by decide +kernel
theorem dX11_sumOf_79 : decode cX11_sumOf 79 = .ok (.iload 4, 2) := by decide +kernel
theorem dX11_sumOf_81 : decode cX11_sumOf 81 = .ok (.ifCond .eq 10, 3) := by decide +kernel
theorem dX11_sumOf_84 : decode cX11_sumOf 84 = .ok (.lload_n 2, 1) := by decide +kernel
theorem dX11_sumOf_85 : decode cX11_sumOf 85 = .ok (.lload 5, 2) := by decide +kernel
theorem dX11_sumOf_87 : decode cX11_sumOf 87 = .ok (.ladd, 1) := by decide +kernel
theorem dX11_sumOf_88 : decode cX11_sumOf 88 = .ok (.goto 7, 3) := by decide +kernel
theorem dX11_sumOf_91 : decode cX11_sumOf 91 = .ok (.lload_n 2, 1) := by decide +kernel
theorem dX11_sumOf_92 : decode cX11_sumOf 92 = .ok (.lload 5, 2) := by decide +kernel
theorem dX11_sumOf_94 : decode cX11_sumOf 94 = .ok (.lsub, 1) := by decide +kernel
theorem dX11_sumOf_95 : decode cX11_sumOf 95 = .ok (.iload_n 1, 1) := by decide +kernel
theorem dX11_sumOf_96 : decode cX11_sumOf 96 = .ok (.invokevirtual 266, 3) := by decide +kernel
theorem dX11_sumOf_99 : decode cX11_sumOf 99 = .ok (.lstore_n 2, 1) := by decide +kernel
theorem dX11_sumOf_100 : decode cX11_sumOf 100 = .ok (.goto (-94), 3) := by decide +kernel
theorem dX11_sumOf_103 : decode cX11_sumOf 103 = .ok (.lload_n 2, 1) := by decide +kernel
theorem dX11_sumOf_104 : decode cX11_sumOf 104 = .ok (.lreturn, 1) := by decide +kernel
theorem dX11_termOf_0 : decode cX11_termOf 0 = .ok (.aload_n 0, 1) := by decide +kernel
theorem dX11_termOf_1 : decode cX11_termOf 1 = .ok (.iload_n 1, 1) := by decide +kernel
theorem dX11_termOf_2 : decode cX11_termOf 2 = .ok (.invokevirtual 270, 3) := by decide +kernel
theorem dX11_termOf_5 : decode cX11_termOf 5 = .ok (.lstore_n 2, 1) := by decide +kernel
theorem dX11_termOf_6 : decode cX11_termOf 6 = .ok (.aload_n 0, 1) := by decide +kernel
theorem dX11_termOf_7 : decode cX11_termOf 7 = .ok (.aload_n 0, 1) := by decide +kernel
theorem dX11_termOf_8 : decode cX11_termOf 8 = .ok (.getfield 249, 3) := by decide +kernel
theorem dX11_termOf_11 : decode cX11_termOf 11 = .ok (.invokevirtual 252, 3) := by decide +kernel
theorem dX11_termOf_14 : decode cX11_termOf 14 = .ok (.bipush 42, 2) := by decide +kernel
theorem dX11_termOf_16 : decode cX11_termOf 16 = .ok (.invokestatic 211, 3) := by decide +kernel
theorem dX11_termOf_19 : decode cX11_termOf 19 = .ok (.if_icmp .eq 35, 3) := by decide +kernel
theorem dX11_termOf_22 : decode cX11_termOf 22 = .ok (.aload_n 0, 1) := by decide +kernel
theorem dX11_termOf_23 : decode cX11_termOf 23 = .ok (.aload_n 0, 1) := by decide +kernel
theorem dX11_termOf_24 : decode cX11_termOf 24 = .ok (.getfield 249, 3) := by decide +kernel
theorem dX11_termOf_27 : decode cX11_termOf 27 = .ok (.invokevirtual 252, 3) := by decide +kernel
theorem dX11_termOf_30 : decode cX11_termOf 30 = .ok (.bipush 47, 2) := by decide +kernel
theorem dX11_termOf_32 : decode cX11_termOf 32 = .ok (.invokestatic 211, 3) := by decide +kernel
theorem dX11_termOf_35 : decode cX11_termOf 35 = .ok (.if_icmp .eq 19, 3) := by decide +kernel
theorem dX11_termOf_38 : decode cX11_termOf 38 = .ok (.aload_n 0, 1) := by decide +kernel
theorem dX11_termOf_39 : decode cX11_termOf 39 = .ok (.aload_n 0, 1) := by decide +kernel
theorem dX11_termOf_40 : decode cX11_termOf 40 = .ok (.getfield 249, 3) := by decide +kernel
theorem dX11_termOf_43 : decode cX11_termOf 43 = .ok (.invokevirtual 252, 3) := by decide +kernel
theorem dX11_termOf_46 : decode cX11_termOf 46 = .ok (.bipush 37, 2) := by decide +kernel
theorem dX11_termOf_48 : decode cX11_termOf 48 = .ok (.invokestatic 211, 3) := by decide +kernel
theorem dX11_termOf_51 : decode cX11_termOf 51 = .ok (.if_icmp .ne 117, 3) := by decide +kernel
theorem dX11_termOf_54 : decode cX11_termOf 54 = .ok (.aload_n 0, 1) := by decide +kernel
theorem dX11_termOf_55 : decode cX11_termOf 55 = .ok (.aload_n 0, 1) := by decide +kernel
theorem dX11_termOf_56 : decode cX11_termOf 56 = .ok (.getfield 249, 3) := by decide +kernel
theorem dX11_termOf_59 : decode cX11_termOf 59 = .ok (.invokevirtual 252, 3) := by decide +kernel
theorem dX11_termOf_62 : decode cX11_termOf 62 = .ok (.istore 4, 2) := by decide +kernel
theorem dX11_termOf_64 : decode cX11_termOf 64 = .ok (.aload_n 0, 1) := by decide +kernel
theorem dX11_termOf_65 : decode cX11_termOf 65 = .ok (.dup, 1) := by decide +kernel
theorem dX11_termOf_66 : decode cX11_termOf 66 = .ok (.getfield 249, 3) := by decide +kernel
theorem dX11_termOf_69 : decode cX11_termOf 69 = .ok (.iconst 1, 1) := by decide +kernel
theorem dX11_termOf_70 : decode cX11_termOf 70 = .ok (.iadd, 1) := by decide +kernel
theorem dX11_termOf_71 : decode cX11_termOf 71 = .ok (.putfield 249, 3) := by decide +kernel
theorem dX11_termOf_74 : decode cX11_termOf 74 = .ok (.aload_n 0, 1) := by decide +kernel
theorem dX11_termOf_75 : decode cX11_termOf 75 = .ok (.iload_n 1, 1) := by decide +kernel
theorem dX11_termOf_76 : decode cX11_termOf 76 = .ok (.invokevirtual 270, 3) := by decide +kernel
theorem dX11_termOf_79 : decode cX11_termOf 79 = .ok (.lstore 5, 2) := by decide +kernel
theorem dX11_termOf_81 : decode cX11_termOf 81 = .ok (.iload 4, 2) := by decide +kernel
theorem dX11_termOf_83 : decode cX11_termOf 83 = .ok (.bipush 42, 2) := by decide +kernel
theorem dX11_termOf_85 : decode cX11_termOf 85 = .ok (.invokestatic 211, 3) := by decide +kernel
theorem dX11_termOf_88 : decode cX11_termOf 88 = .ok (.if_icmp .eq 33, 3) := by decide +kernel
theorem dX11_termOf_91 : decode cX11_termOf 91 = .ok (.lload 5, 2) := by decide +kernel
theorem dX11_termOf_93 : decode cX11_termOf 93 = .ok (.lconst 0, 1) := by decide +kernel
theorem dX11_termOf_94 : decode cX11_termOf 94 = .ok (.lcmp, 1) := by decide +kernel
theorem dX11_termOf_95 : decode cX11_termOf 95 = .ok (.ifCond .ne 26, 3) := by decide +kernel
theorem dX11_termOf_98 : decode cX11_termOf 98 = .ok (.aload_n 0, 1) := by decide +kernel
theorem dX11_termOf_99 : decode cX11_termOf 99 = .ok (.aload_n 0, 1) := by decide +kernel
theorem dX11_termOf_100 : decode cX11_termOf 100 = .ok (.getfield 259, 3) := by decide +kernel
theorem dX11_termOf_103 : decode cX11_termOf 103 = .ok (.ifCond .ne 7, 3) := by decide +kernel
theorem dX11_termOf_106 : decode cX11_termOf 106 = .ok (.iload_n 1, 1) := by decide +kernel
theorem dX11_termOf_107 : decode cX11_termOf 107 = .ok (.ifCond .eq 7, 3) := by decide +kernel
theorem dX11_termOf_110 : decode cX11_termOf 110 = .ok (.iconst 1, 1) := by decide +kernel
theorem dX11_termOf_111 : decode cX11_termOf 111 = .ok (.goto 4, 3) := by decide +kernel
theorem dX11_termOf_114 : decode cX11_termOf 114 = .ok (.iconst 0, 1) := by decide +kernel
theorem dX11_termOf_115 : decode cX11_termOf 115 = .ok (.putfield 259, 3) := by decide +kernel
theorem dX11_termOf_118 : decode cX11_termOf 118 = .ok (.lconst 1, 1) := by decide +kernel
theorem dX11_termOf_119 : decode cX11_termOf 119 = .ok (.lstore 5, 2) := by decide +kernel
theorem dX11_termOf_121 : decode cX11_termOf 121 = .ok (.aload_n 0, 1) := by decide +kernel
theorem dX11_termOf_122 : decode cX11_termOf 122 = .ok (.iload 4, 2) := by decide +kernel
theorem dX11_termOf_124 : decode cX11_termOf 124 = .ok (.bipush 42, 2) := by decide +kernel
theorem dX11_termOf_126 : decode cX11_termOf 126 = .ok (.invokestatic 211, 3) := by decide +kernel
theorem dX11_termOf_129 : decode cX11_termOf 129 = .ok (.if_icmp .ne 10, 3) := by decide +kernel
theorem dX11_termOf_132 : decode cX11_termOf 132 = .ok (.lload_n 2, 1) := by decide +kernel
theorem dX11_termOf_133 : decode cX11_termOf 133 = .ok (.lload 5, 2) := by decide +kernel
theorem dX11_termOf_135 : decode cX11_termOf 135 = .ok (.lmul, 1) := by decide +kernel
theorem dX11_termOf_136 : decode cX11_termOf 136 = .ok (.goto 24, 3) := by decide +kernel
theorem dX11_termOf_139 : decode cX11_termOf 139 = .ok (.iload 4, 2) := by decide +kernel
theorem dX11_termOf_141 : decode cX11_termOf 141 = .ok (.bipush 47, 2) := by decide +kernel
theorem dX11_termOf_143 : decode cX11_termOf 143 = .ok (.invokestatic 211, 3) := by decide +kernel
theorem dX11_termOf_146 : decode cX11_termOf 146 = .ok (.if_icmp .ne 10, 3) := by decide +kernel
theorem dX11_termOf_149 : decode cX11_termOf 149 = .ok (.lload_n 2, 1) := by decide +kernel
theorem dX11_termOf_150 : decode cX11_termOf 150 = .ok (.lload 5, 2) := by decide +kernel
theorem dX11_termOf_152 : decode cX11_termOf 152 = .ok (.ldiv, 1) := by decide +kernel
theorem dX11_termOf_153 : decode cX11_termOf 153 = .ok (.goto 7, 3) := by decide +kernel
theorem dX11_termOf_156 : decode cX11_termOf 156 = .ok (.lload_n 2, 1) := by decide +kernel
theorem dX11_termOf_157 : decode cX11_termOf 157 = .ok (.lload 5, 2) := by decide +kernel
theorem dX11_termOf_159 : decode cX11_termOf 159 = .ok (.lrem, 1) := by decide +kernel
theorem dX11_termOf_160 : decode cX11_termOf 160 = .ok (.iload_n 1, 1) := by decide +kernel
theorem dX11_termOf_161 : decode cX11_termOf 161 = .ok (.invokevirtual 266, 3) := by decide +kernel
theorem dX11_termOf_164 : decode cX11_termOf 164 = .ok (.lstore_n 2, 1) := by decide +kernel
theorem dX11_termOf_165 : decode cX11_termOf 165 = .ok (.goto (-159), 3) := by decide +kernel
theorem dX11_termOf_168 : decode cX11_termOf 168 = .ok (.lload_n 2, 1) := by decide +kernel
theorem dX11_termOf_169 : decode cX11_termOf 169 = .ok (.lreturn, 1) := by decide +kernel
theorem dX11_partOf_0 : decode cX11_partOf 0 = .ok (.aload_n 0, 1) := by decide +kernel
theorem dX11_partOf_1 : decode cX11_partOf 1 = .ok (.bipush 91, 2) := by decide +kernel
theorem dX11_partOf_3 : decode cX11_partOf 3 = .ok (.invokestatic 211, 3) := by decide +kernel
theorem dX11_partOf_6 : decode cX11_partOf 6 = .ok (.invokevirtual 273, 3) := by decide +kernel
theorem dX11_partOf_9 : decode cX11_partOf 9 = .ok (.ifCond .eq 21, 3) := by decide +kernel
theorem dX11_partOf_12 : decode cX11_partOf 12 = .ok (.aload_n 0, 1) := by decide +kernel
theorem dX11_partOf_13 : decode cX11_partOf 13 = .ok (.iload_n 1, 1) := by decide +kernel
theorem dX11_partOf_14 : decode cX11_partOf 14 = .ok (.invokevirtual 276, 3) := by decide +kernel
theorem dX11_partOf_17 : decode cX11_partOf 17 = .ok (.lstore_n 2, 1) := by decide +kernel
theorem dX11_partOf_18 : decode cX11_partOf 18 = .ok (.aload_n 0, 1) := by decide +kernel
theorem dX11_partOf_19 : decode cX11_partOf 19 = .ok (.dup, 1) := by decide +kernel
theorem dX11_partOf_20 : decode cX11_partOf 20 = .ok (.getfield 249, 3) := by decide +kernel
theorem dX11_partOf_23 : decode cX11_partOf 23 = .ok (.iconst 1, 1) := by decide +kernel
theorem dX11_partOf_24 : decode cX11_partOf 24 = .ok (.iadd, 1) := by decide +kernel
theorem dX11_partOf_25 : decode cX11_partOf 25 = .ok (.putfield 249, 3) := by decide +kernel
theorem dX11_partOf_28 : decode cX11_partOf 28 = .ok (.lload_n 2, 1) := by decide +kernel
theorem dX11_partOf_29 : decode cX11_partOf 29 = .ok (.lreturn, 1) := by decide +kernel
theorem dX11_partOf_30 : decode cX11_partOf 30 = .ok (.aload_n 0, 1) := by decide +kernel
theorem dX11_partOf_31 : decode cX11_partOf 31 = .ok (.aload_n 0, 1) := by decide +kernel
theorem dX11_partOf_32 : decode cX11_partOf 32 = .ok (.getfield 249, 3) := by decide +kernel
theorem dX11_partOf_35 : decode cX11_partOf 35 = .ok (.invokevirtual 252, 3) := by decide +kernel
theorem dX11_partOf_38 : decode cX11_partOf 38 = .ok (.istore_n 2, 1) := by decide +kernel
theorem dX11_partOf_39 : decode cX11_partOf 39 = .ok (.iconst 0, 1) := by decide +kernel
theorem dX11_partOf_40 : decode cX11_partOf 40 = .ok (.istore_n 3, 1) := by decide +kernel
theorem dX11_partOf_41 : decode cX11_partOf 41 = .ok (.aload_n 0, 1) := by decide +kernel
theorem dX11_partOf_42 : decode cX11_partOf 42 = .ok (.dup, 1) := by decide +kernel
theorem dX11_partOf_43 : decode cX11_partOf 43 = .ok (.getfield 249, 3) := by decide +kernel
theorem dX11_partOf_46 : decode cX11_partOf 46 = .ok (.iconst 1, 1) := by decide +kernel
theorem dX11_partOf_47 : decode cX11_partOf 47 = .ok (.iadd, 1) := by decide +kernel
theorem dX11_partOf_48 : decode cX11_partOf 48 = .ok (.putfield 249, 3) := by decide +kernel
theorem dX11_partOf_51 : decode cX11_partOf 51 = .ok (.aload_n 0, 1) := by decide +kernel
theorem dX11_partOf_52 : decode cX11_partOf 52 = .ok (.getfield 279, 3) := by decide +kernel
theorem dX11_partOf_55 : decode cX11_partOf 55 = .ok (.ifCond .eq 39, 3) := by decide +kernel
theorem dX11_partOf_58 : decode cX11_partOf 58 = .ok (.iload_n 2, 1) := by decide +kernel
theorem dX11_partOf_59 : decode cX11_partOf 59 = .ok (.bipush 14, 2) := by decide +kernel
theorem dX11_partOf_61 : decode cX11_partOf 61 = .ok (.if_icmp .eq 9, 3) := by decide +kernel
theorem dX11_partOf_64 : decode cX11_partOf 64 = .ok (.iload_n 2, 1) := by decide +kernel
theorem dX11_partOf_65 : decode cX11_partOf 65 = .ok (.bipush 15, 2) := by decide +kernel
theorem dX11_partOf_67 : decode cX11_partOf 67 = .ok (.if_icmp .ne 27, 3) := by decide +kernel
theorem dX11_partOf_70 : decode cX11_partOf 70 = .ok (.aload_n 0, 1) := by decide +kernel
theorem dX11_partOf_71 : decode cX11_partOf 71 = .ok (.getfield 24, 3) := by decide +kernel
theorem dX11_partOf_74 : decode cX11_partOf 74 = .ok (.sipush 2887, 3) := by decide +kernel
theorem dX11_partOf_77 : decode cX11_partOf 77 = .ok (.aload_n 0, 1) := by decide +kernel
theorem dX11_partOf_78 : decode cX11_partOf 78 = .ok (.getfield 249, 3) := by decide +kernel
theorem dX11_partOf_81 : decode cX11_partOf 81 = .ok (.iadd, 1) := by decide +kernel
theorem dX11_partOf_82 : decode cX11_partOf 82 = .ok (.iaload, 1) := by decide +kernel
theorem dX11_partOf_83 : decode cX11_partOf 83 = .ok (.istore_n 3, 1) := by decide +kernel
theorem dX11_partOf_84 : decode cX11_partOf 84 = .ok (.aload_n 0, 1) := by decide +kernel
theorem dX11_partOf_85 : decode cX11_partOf 85 = .ok (.dup, 1) := by decide +kernel
theorem dX11_partOf_86 : decode cX11_partOf 86 = .ok (.getfield 249, 3) := by decide +kernel
theorem dX11_partOf_89 : decode cX11_partOf 89 = .ok (.iconst 1, 1) := by decide +kernel
theorem dX11_partOf_90 : decode cX11_partOf 90 = .ok (.iadd, 1) := by decide +kernel
theorem dX11_partOf_91 : decode cX11_partOf 91 = .ok (.putfield 249, 3) := by decide +kernel
theorem dX11_partOf_94 : decode cX11_partOf 94 = .ok (.iload_n 1, 1) := by decide +kernel
theorem dX11_partOf_95 : decode cX11_partOf 95 = .ok (.ifCond .eq 10, 3) := by decide +kernel
theorem dX11_partOf_98 : decode cX11_partOf 98 = .ok (.aload_n 0, 1) := by decide +kernel
theorem dX11_partOf_99 : decode cX11_partOf 99 = .ok (.getfield 259, 3) := by decide +kernel
theorem dX11_partOf_102 : decode cX11_partOf 102 = .ok (.ifCond .eq 5, 3) := by decide +kernel
theorem dX11_partOf_105 : decode cX11_partOf 105 = .ok (.lconst 0, 1) := by decide +kernel
theorem dX11_partOf_106 : decode cX11_partOf 106 = .ok (.lreturn, 1) := by decide +kernel
theorem dX11_partOf_107 : decode cX11_partOf 107 = .ok (.iload_n 2, 1) := by decide +kernel
theorem dX11_partOf_108 : decode cX11_partOf 108 = .ok (.bipush 50, 2) := by decide +kernel
theorem dX11_partOf_110 : decode cX11_partOf 110 = .ok (.if_icmp .ne 20, 3) := by decide +kernel
theorem dX11_partOf_113 : decode cX11_partOf 113 = .ok (.aload_n 0, 1) := by decide +kernel
theorem dX11_partOf_114 : decode cX11_partOf 114 = .ok (.getfield 24, 3) := by decide +kernel
theorem dX11_partOf_117 : decode cX11_partOf 117 = .ok (.sipush 2887, 3) := by decide +kernel
theorem dX11_partOf_120 : decode cX11_partOf 120 = .ok (.aload_n 0, 1) := by decide +kernel
theorem dX11_partOf_121 : decode cX11_partOf 121 = .ok (.getfield 249, 3) := by decide +kernel
theorem dX11_partOf_124 : decode cX11_partOf 124 = .ok (.iadd, 1) := by decide +kernel
theorem dX11_partOf_125 : decode cX11_partOf 125 = .ok (.iconst 1, 1) := by decide +kernel
theorem dX11_partOf_126 : decode cX11_partOf 126 = .ok (.isub, 1) := by decide +kernel
theorem dX11_partOf_127 : decode cX11_partOf 127 = .ok (.iaload, 1) := by decide +kernel
theorem dX11_partOf_128 : decode cX11_partOf 128 = .ok (.i2l, 1) := by decide +kernel
theorem dX11_partOf_129 : decode cX11_partOf 129 = .ok (.lreturn, 1) := by decide +kernel
theorem dX11_partOf_130 : decode cX11_partOf 130 = .ok (.aload_n 0, 1) := by decide +kernel
theorem dX11_partOf_131 : decode cX11_partOf 131 = .ok (.getfield 279, 3) := by decide +kernel
theorem dX11_partOf_134 : decode cX11_partOf 134 = .ok (.ifCond .eq 13, 3) := by decide +kernel
theorem dX11_partOf_137 : decode cX11_partOf 137 = .ok (.aload_n 0, 1) := by decide +kernel
theorem dX11_partOf_138 : decode cX11_partOf 138 = .ok (.iload_n 2, 1) := by decide +kernel
theorem dX11_partOf_139 : decode cX11_partOf 139 = .ok (.iload_n 3, 1) := by decide +kernel
theorem dX11_partOf_140 : decode cX11_partOf 140 = .ok (.invokevirtual 282, 3) := by decide +kernel
theorem dX11_partOf_143 : decode cX11_partOf 143 = .ok (.i2l, 1) := by decide +kernel
theorem dX11_partOf_144 : decode cX11_partOf 144 = .ok (.goto 13, 3) := by decide +kernel
theorem dX11_partOf_147 : decode cX11_partOf 147 = .ok (.aload_n 0, 1) := by decide +kernel
theorem dX11_partOf_148 : decode cX11_partOf 148 = .ok (.getfield 59, 3) := by decide +kernel
theorem dX11_partOf_151 : decode cX11_partOf 151 = .ok (.iload_n 2, 1) := by decide +kernel
theorem dX11_partOf_152 : decode cX11_partOf 152 = .ok (.bipush 8, 2) := by decide +kernel
theorem dX11_partOf_154 : decode cX11_partOf 154 = .ok (.isub, 1) := by decide +kernel
theorem dX11_partOf_155 : decode cX11_partOf 155 = .ok (.iaload, 1) := by decide +kernel
theorem dX11_partOf_156 : decode cX11_partOf 156 = .ok (.i2l, 1) := by decide +kernel
theorem dX11_partOf_157 : decode cX11_partOf 157 = .ok (.lreturn, 1) := by decide +kernel
theorem dX11_orderValue_0 : decode cX11_orderValue 0 = .ok (.iload_n 1, 1) := by decide +kernel
theorem dX11_orderValue_1 : decode cX11_orderValue 1 = .ok (.tableswitch 106 14 19 #[39, 60, 82, 89, 96, 101], 39) := by decide +kernel
theorem dX11_orderValue_40 : decode cX11_orderValue 40 = .ok (.aload_n 0, 1) := by decide +kernel
theorem dX11_orderValue_41 : decode cX11_orderValue 41 = .ok (.iload_n 2, 1) := by decide +kernel
theorem dX11_orderValue_42 : decode cX11_orderValue 42 = .ok (.invokevirtual 100, 3) := by decide +kernel
theorem dX11_orderValue_45 : decode cX11_orderValue 45 = .ok (.ifCond .eq 14, 3) := by decide +kernel
theorem dX11_orderValue_48 : decode cX11_orderValue 48 = .ok (.aload_n 0, 1) := by decide +kernel
theorem dX11_orderValue_49 : decode cX11_orderValue 49 = .ok (.getfield 24, 3) := by decide +kernel
theorem dX11_orderValue_52 : decode cX11_orderValue 52 = .ok (.iconst 3, 1) := by decide +kernel
theorem dX11_orderValue_53 : decode cX11_orderValue 53 = .ok (.iload_n 2, 1) := by decide +kernel
theorem dX11_orderValue_54 : decode cX11_orderValue 54 = .ok (.iadd, 1) := by decide +kernel
theorem dX11_orderValue_55 : decode cX11_orderValue 55 = .ok (.iaload, 1) := by decide +kernel
theorem dX11_orderValue_56 : decode cX11_orderValue 56 = .ok (.goto 4, 3) := by decide +kernel
theorem dX11_orderValue_59 : decode cX11_orderValue 59 = .ok (.iconst (-1), 1) := by decide +kernel
theorem dX11_orderValue_60 : decode cX11_orderValue 60 = .ok (.ireturn, 1) := by decide +kernel
theorem dX11_orderValue_61 : decode cX11_orderValue 61 = .ok (.aload_n 0, 1) := by decide +kernel
theorem dX11_orderValue_62 : decode cX11_orderValue 62 = .ok (.iload_n 2, 1) := by decide +kernel
theorem dX11_orderValue_63 : decode cX11_orderValue 63 = .ok (.invokevirtual 129, 3) := by decide +kernel
theorem dX11_orderValue_66 : decode cX11_orderValue 66 = .ok (.ifCond .eq 15, 3) := by decide +kernel
theorem dX11_orderValue_69 : decode cX11_orderValue 69 = .ok (.aload_n 0, 1) := by decide +kernel
theorem dX11_orderValue_70 : decode cX11_orderValue 70 = .ok (.getfield 24, 3) := by decide +kernel
theorem dX11_orderValue_73 : decode cX11_orderValue 73 = .ok (.bipush 19, 2) := by decide +kernel
theorem dX11_orderValue_75 : decode cX11_orderValue 75 = .ok (.iload_n 2, 1) := by decide +kernel
theorem dX11_orderValue_76 : decode cX11_orderValue 76 = .ok (.iadd, 1) := by decide +kernel
theorem dX11_orderValue_77 : decode cX11_orderValue 77 = .ok (.iaload, 1) := by decide +kernel
theorem dX11_orderValue_78 : decode cX11_orderValue 78 = .ok (.goto 4, 3) := by decide +kernel
theorem dX11_orderValue_81 : decode cX11_orderValue 81 = .ok (.iconst (-1), 1) := by decide +kernel
theorem dX11_orderValue_82 : decode cX11_orderValue 82 = .ok (.ireturn, 1) := by decide +kernel
theorem dX11_orderValue_83 : decode cX11_orderValue 83 = .ok (.aload_n 0, 1) := by decide +kernel
theorem dX11_orderValue_84 : decode cX11_orderValue 84 = .ok (.getfield 24, 3) := by decide +kernel
theorem dX11_orderValue_87 : decode cX11_orderValue 87 = .ok (.iconst 0, 1) := by decide +kernel
theorem dX11_orderValue_88 : decode cX11_orderValue 88 = .ok (.iaload, 1) := by decide +kernel
theorem dX11_orderValue_89 : decode cX11_orderValue 89 = .ok (.ireturn, 1) := by decide +kernel
theorem dX11_orderValue_90 : decode cX11_orderValue 90 = .ok (.aload_n 0, 1) := by decide +kernel
theorem dX11_orderValue_91 : decode cX11_orderValue 91 = .ok (.getfield 24, 3) := by decide +kernel
theorem dX11_orderValue_94 : decode cX11_orderValue 94 = .ok (.iconst 2, 1) := by decide +kernel
theorem dX11_orderValue_95 : decode cX11_orderValue 95 = .ok (.iaload, 1) := by decide +kernel
theorem dX11_orderValue_96 : decode cX11_orderValue 96 = .ok (.ireturn, 1) := by decide +kernel
theorem dX11_orderValue_97 : decode cX11_orderValue 97 = .ok (.aload_n 0, 1) := by decide +kernel
theorem dX11_orderValue_98 : decode cX11_orderValue 98 = .ok (.getfield 285, 3) := by decide +kernel
theorem dX11_orderValue_101 : decode cX11_orderValue 101 = .ok (.ireturn, 1) := by decide +kernel
theorem dX11_orderValue_102 : decode cX11_orderValue 102 = .ok (.aload_n 0, 1) := by decide +kernel
theorem dX11_orderValue_103 : decode cX11_orderValue 103 = .ok (.getfield 288, 3) := by decide +kernel
theorem dX11_orderValue_106 : decode cX11_orderValue 106 = .ok (.ireturn, 1) := by decide +kernel
theorem dX11_orderValue_107 : decode cX11_orderValue 107 = .ok (.aload_n 0, 1) := by decide +kernel
theorem dX11_orderValue_108 : decode cX11_orderValue 108 = .ok (.getfield 24, 3) := by decide +kernel
theorem dX11_orderValue_111 : decode cX11_orderValue 111 = .ok (.iconst 1, 1) := by decide +kernel
theorem dX11_orderValue_112 : decode cX11_orderValue 112 = .ok (.iaload, 1) := by decide +kernel
theorem dX11_orderValue_113 : decode cX11_orderValue 113 = .ok (.ireturn, 1) := by decide +kernel
theorem dX11_testOf_0 : decode cX11_testOf 0 = .ok (.aload_n 0, 1) := by decide +kernel
theorem dX11_testOf_1 : decode cX11_testOf 1 = .ok (.iload_n 1, 1) := by decide +kernel
theorem dX11_testOf_2 : decode cX11_testOf 2 = .ok (.invokevirtual 291, 3) := by decide +kernel
theorem dX11_testOf_5 : decode cX11_testOf 5 = .ok (.istore_n 2, 1) := by decide +kernel
theorem dX11_testOf_6 : decode cX11_testOf 6 = .ok (.aload_n 0, 1) := by decide +kernel
theorem dX11_testOf_7 : decode cX11_testOf 7 = .ok (.iconst 5, 1) := by decide +kernel
theorem dX11_testOf_8 : decode cX11_testOf 8 = .ok (.invokevirtual 273, 3) := by decide +kernel
theorem dX11_testOf_11 : decode cX11_testOf 11 = .ok (.ifCond .eq 38, 3) := by decide +kernel
theorem dX11_testOf_14 : decode cX11_testOf 14 = .ok (.aload_n 0, 1) := by decide +kernel
theorem dX11_testOf_15 : decode cX11_testOf 15 = .ok (.iload_n 1, 1) := by decide +kernel
theorem dX11_testOf_16 : decode cX11_testOf 16 = .ok (.ifCond .eq 11, 3) := by decide +kernel
theorem dX11_testOf_19 : decode cX11_testOf 19 = .ok (.iload_n 2, 1) := by decide +kernel
theorem dX11_testOf_20 : decode cX11_testOf 20 = .ok (.ifCond .ne 7, 3) := by decide +kernel
theorem dX11_testOf_23 : decode cX11_testOf 23 = .ok (.iconst 1, 1) := by decide +kernel
theorem dX11_testOf_24 : decode cX11_testOf 24 = .ok (.goto 4, 3) := by decide +kernel
theorem dX11_testOf_27 : decode cX11_testOf 27 = .ok (.iconst 0, 1) := by decide +kernel
theorem dX11_testOf_28 : decode cX11_testOf 28 = .ok (.invokevirtual 291, 3) := by decide +kernel
theorem dX11_testOf_31 : decode cX11_testOf 31 = .ok (.istore_n 3, 1) := by decide +kernel
theorem dX11_testOf_32 : decode cX11_testOf 32 = .ok (.iload_n 2, 1) := by decide +kernel
theorem dX11_testOf_33 : decode cX11_testOf 33 = .ok (.ifCond .ne 7, 3) := by decide +kernel
theorem dX11_testOf_36 : decode cX11_testOf 36 = .ok (.iload_n 3, 1) := by decide +kernel
theorem dX11_testOf_37 : decode cX11_testOf 37 = .ok (.ifCond .eq 7, 3) := by decide +kernel
theorem dX11_testOf_40 : decode cX11_testOf 40 = .ok (.iconst 1, 1) := by decide +kernel
theorem dX11_testOf_41 : decode cX11_testOf 41 = .ok (.goto 4, 3) := by decide +kernel
theorem dX11_testOf_44 : decode cX11_testOf 44 = .ok (.iconst 0, 1) := by decide +kernel
theorem dX11_testOf_45 : decode cX11_testOf 45 = .ok (.istore_n 2, 1) := by decide +kernel
theorem dX11_testOf_46 : decode cX11_testOf 46 = .ok (.goto (-40), 3) := by decide +kernel
theorem dX11_testOf_49 : decode cX11_testOf 49 = .ok (.iload_n 2, 1) := by decide +kernel
theorem dX11_testOf_50 : decode cX11_testOf 50 = .ok (.ireturn, 1) := by decide +kernel
theorem dX11_bothOf_0 : decode cX11_bothOf 0 = .ok (.aload_n 0, 1) := by decide +kernel
theorem dX11_bothOf_1 : decode cX11_bothOf 1 = .ok (.iload_n 1, 1) := by decide +kernel
theorem dX11_bothOf_2 : decode cX11_bothOf 2 = .ok (.invokevirtual 294, 3) := by decide +kernel
theorem dX11_bothOf_5 : decode cX11_bothOf 5 = .ok (.istore_n 2, 1) := by decide +kernel
theorem dX11_bothOf_6 : decode cX11_bothOf 6 = .ok (.aload_n 0, 1) := by decide +kernel
theorem dX11_bothOf_7 : decode cX11_bothOf 7 = .ok (.bipush 6, 2) := by decide +kernel
theorem dX11_bothOf_9 : decode cX11_bothOf 9 = .ok (.invokevirtual 273, 3) := by decide +kernel
theorem dX11_bothOf_12 : decode cX11_bothOf 12 = .ok (.ifCond .eq 38, 3) := by decide +kernel
theorem dX11_bothOf_15 : decode cX11_bothOf 15 = .ok (.aload_n 0, 1) := by decide +kernel
theorem dX11_bothOf_16 : decode cX11_bothOf 16 = .ok (.iload_n 1, 1) := by decide +kernel
theorem dX11_bothOf_17 : decode cX11_bothOf 17 = .ok (.ifCond .eq 11, 3) := by decide +kernel
theorem dX11_bothOf_20 : decode cX11_bothOf 20 = .ok (.iload_n 2, 1) := by decide +kernel
theorem dX11_bothOf_21 : decode cX11_bothOf 21 = .ok (.ifCond .eq 7, 3) := by decide +kernel
theorem dX11_bothOf_24 : decode cX11_bothOf 24 = .ok (.iconst 1, 1) := by decide +kernel
theorem dX11_bothOf_25 : decode cX11_bothOf 25 = .ok (.goto 4, 3) := by decide +kernel
theorem dX11_bothOf_28 : decode cX11_bothOf 28 = .ok (.iconst 0, 1) := by decide +kernel
theorem dX11_bothOf_29 : decode cX11_bothOf 29 = .ok (.invokevirtual 294, 3) := by decide +kernel
theorem dX11_bothOf_32 : decode cX11_bothOf 32 = .ok (.istore_n 3, 1) := by decide +kernel
theorem dX11_bothOf_33 : decode cX11_bothOf 33 = .ok (.iload_n 2, 1) := by decide +kernel
theorem dX11_bothOf_34 : decode cX11_bothOf 34 = .ok (.ifCond .eq 11, 3) := by decide +kernel
theorem dX11_bothOf_37 : decode cX11_bothOf 37 = .ok (.iload_n 3, 1) := by decide +kernel
theorem dX11_bothOf_38 : decode cX11_bothOf 38 = .ok (.ifCond .eq 7, 3) := by decide +kernel
theorem dX11_bothOf_41 : decode cX11_bothOf 41 = .ok (.iconst 1, 1) := by decide +kernel
theorem dX11_bothOf_42 : decode cX11_bothOf 42 = .ok (.goto 4, 3) := by decide +kernel
theorem dX11_bothOf_45 : decode cX11_bothOf 45 = .ok (.iconst 0, 1) := by decide +kernel
theorem dX11_bothOf_46 : decode cX11_bothOf 46 = .ok (.istore_n 2, 1) := by decide +kernel
theorem dX11_bothOf_47 : decode cX11_bothOf 47 = .ok (.goto (-41), 3) := by decide +kernel
theorem dX11_bothOf_50 : decode cX11_bothOf 50 = .ok (.iload_n 2, 1) := by decide +kernel
theorem dX11_bothOf_51 : decode cX11_bothOf 51 = .ok (.ireturn, 1) := by decide +kernel
theorem dX11_plainOf_0 : decode cX11_plainOf 0 = .ok (.iconst 0, 1) := by decide +kernel
theorem dX11_plainOf_1 : decode cX11_plainOf 1 = .ok (.istore_n 2, 1) := by decide +kernel
theorem dX11_plainOf_2 : decode cX11_plainOf 2 = .ok (.aload_n 0, 1) := by decide +kernel
theorem dX11_plainOf_3 : decode cX11_plainOf 3 = .ok (.bipush 7, 2) := by decide +kernel
theorem dX11_plainOf_5 : decode cX11_plainOf 5 = .ok (.invokevirtual 273, 3) := by decide +kernel
theorem dX11_plainOf_8 : decode cX11_plainOf 8 = .ok (.ifCond .eq 16, 3) := by decide +kernel
theorem dX11_plainOf_11 : decode cX11_plainOf 11 = .ok (.iload_n 2, 1) := by decide +kernel
theorem dX11_plainOf_12 : decode cX11_plainOf 12 = .ok (.ifCond .ne 7, 3) := by decide +kernel
theorem dX11_plainOf_15 : decode cX11_plainOf 15 = .ok (.iconst 1, 1) := by decide +kernel
theorem dX11_plainOf_16 : decode cX11_plainOf 16 = .ok (.goto 4, 3) := by decide +kernel
theorem dX11_plainOf_19 : decode cX11_plainOf 19 = .ok (.iconst 0, 1) := by decide +kernel
theorem dX11_plainOf_20 : decode cX11_plainOf 20 = .ok (.istore_n 2, 1) := by decide +kernel
theorem dX11_plainOf_21 : decode cX11_plainOf 21 = .ok (.goto (-19), 3) := by decide +kernel
theorem dX11_plainOf_24 : decode cX11_plainOf 24 = .ok (.aload_n 0, 1) := by decide +kernel
theorem dX11_plainOf_25 : decode cX11_plainOf 25 = .ok (.iload_n 1, 1) := by decide +kernel
theorem dX11_plainOf_26 : decode cX11_plainOf 26 = .ok (.invokevirtual 297, 3) := by decide +kernel
theorem dX11_plainOf_29 : decode cX11_plainOf 29 = .ok (.iload_n 2, 1) := by decide +kernel
theorem dX11_plainOf_30 : decode cX11_plainOf 30 = .ok (.if_icmp .eq 7, 3) := by decide +kernel
theorem dX11_plainOf_33 : decode cX11_plainOf 33 = .ok (.iconst 1, 1) := by decide +kernel
theorem dX11_plainOf_34 : decode cX11_plainOf 34 = .ok (.goto 4, 3) := by decide +kernel
theorem dX11_plainOf_37 : decode cX11_plainOf 37 = .ok (.iconst 0, 1) := by decide +kernel
theorem dX11_plainOf_38 : decode cX11_plainOf 38 = .ok (.ireturn, 1) := by decide +kernel
theorem dX11_positiveOf_0 : decode cX11_positiveOf 0 = .ok (.aload_n 0, 1) := by decide +kernel
theorem dX11_positiveOf_1 : decode cX11_positiveOf 1 = .ok (.bipush 40, 2) := by decide +kernel
theorem dX11_positiveOf_3 : decode cX11_positiveOf 3 = .ok (.invokestatic 211, 3) := by decide +kernel
theorem dX11_positiveOf_6 : decode cX11_positiveOf 6 = .ok (.invokevirtual 273, 3) := by decide +kernel
theorem dX11_positiveOf_9 : decode cX11_positiveOf 9 = .ok (.ifCond .eq 21, 3) := by decide +kernel
theorem dX11_positiveOf_12 : decode cX11_positiveOf 12 = .ok (.aload_n 0, 1) := by decide +kernel
theorem dX11_positiveOf_13 : decode cX11_positiveOf 13 = .ok (.iload_n 1, 1) := by decide +kernel
theorem dX11_positiveOf_14 : decode cX11_positiveOf 14 = .ok (.invokevirtual 300, 3) := by decide +kernel
theorem dX11_positiveOf_17 : decode cX11_positiveOf 17 = .ok (.istore_n 2, 1) := by decide +kernel
theorem dX11_positiveOf_18 : decode cX11_positiveOf 18 = .ok (.aload_n 0, 1) := by decide +kernel
theorem dX11_positiveOf_19 : decode cX11_positiveOf 19 = .ok (.dup, 1) := by decide +kernel
theorem dX11_positiveOf_20 : decode cX11_positiveOf 20 = .ok (.getfield 249, 3) := by decide +kernel
theorem dX11_positiveOf_23 : decode cX11_positiveOf 23 = .ok (.iconst 1, 1) := by decide +kernel
theorem dX11_positiveOf_24 : decode cX11_positiveOf 24 = .ok (.iadd, 1) := by decide +kernel
theorem dX11_positiveOf_25 : decode cX11_positiveOf 25 = .ok (.putfield 249, 3) := by decide +kernel
theorem dX11_positiveOf_28 : decode cX11_positiveOf 28 = .ok (.iload_n 2, 1) := by decide +kernel
theorem dX11_positiveOf_29 : decode cX11_positiveOf 29 = .ok (.ireturn, 1) := by decide +kernel
theorem dX11_positiveOf_30 : decode cX11_positiveOf 30 = .ok (.aload_n 0, 1) := by decide +kernel
theorem dX11_positiveOf_31 : decode cX11_positiveOf 31 = .ok (.iload_n 1, 1) := by decide +kernel
theorem dX11_positiveOf_32 : decode cX11_positiveOf 32 = .ok (.invokevirtual 276, 3) := by decide +kernel
theorem dX11_positiveOf_35 : decode cX11_positiveOf 35 = .ok (.lstore_n 2, 1) := by decide +kernel
theorem dX11_positiveOf_36 : decode cX11_positiveOf 36 = .ok (.aload_n 0, 1) := by decide +kernel
theorem dX11_positiveOf_37 : decode cX11_positiveOf 37 = .ok (.aload_n 0, 1) := by decide +kernel
theorem dX11_positiveOf_38 : decode cX11_positiveOf 38 = .ok (.getfield 249, 3) := by decide +kernel
theorem dX11_positiveOf_41 : decode cX11_positiveOf 41 = .ok (.invokevirtual 252, 3) := by decide +kernel
theorem dX11_positiveOf_44 : decode cX11_positiveOf 44 = .ok (.istore 4, 2) := by decide +kernel
theorem dX11_positiveOf_46 : decode cX11_positiveOf 46 = .ok (.aload_n 0, 1) := by decide +kernel
theorem dX11_positiveOf_47 : decode cX11_positiveOf 47 = .ok (.dup, 1) := by decide +kernel
theorem dX11_positiveOf_48 : decode cX11_positiveOf 48 = .ok (.getfield 249, 3) := by decide +kernel
theorem dX11_positiveOf_51 : decode cX11_positiveOf 51 = .ok (.iconst 1, 1) := by decide +kernel
theorem dX11_positiveOf_52 : decode cX11_positiveOf 52 = .ok (.iadd, 1) := by decide +kernel
theorem dX11_positiveOf_53 : decode cX11_positiveOf 53 = .ok (.putfield 249, 3) := by decide +kernel
theorem dX11_positiveOf_56 : decode cX11_positiveOf 56 = .ok (.aload_n 0, 1) := by decide +kernel
theorem dX11_positiveOf_57 : decode cX11_positiveOf 57 = .ok (.iload_n 1, 1) := by decide +kernel
theorem dX11_positiveOf_58 : decode cX11_positiveOf 58 = .ok (.invokevirtual 276, 3) := by decide +kernel
theorem dX11_positiveOf_61 : decode cX11_positiveOf 61 = .ok (.lstore 5, 2) := by decide +kernel
theorem dX11_positiveOf_63 : decode cX11_positiveOf 63 = .ok (.iload_n 1, 1) := by decide +kernel
theorem dX11_positiveOf_64 : decode cX11_positiveOf 64 = .ok (.ifCond .eq 61, 3) := by decide +kernel
theorem dX11_positiveOf_67 : decode cX11_positiveOf 67 = .ok (.aload_n 0, 1) := by decide +kernel
theorem dX11_positiveOf_68 : decode cX11_positiveOf 68 = .ok (.getfield 259, 3) := by decide +kernel
theorem dX11_positiveOf_71 : decode cX11_positiveOf 71 = .ok (.ifCond .ne 54, 3) := by decide +kernel
theorem dX11_positiveOf_74 : decode cX11_positiveOf 74 = .ok (.iload 4, 2) := by decide +kernel
theorem dX11_positiveOf_76 : decode cX11_positiveOf 76 = .ok (.bipush 60, 2) := by decide +kernel
theorem dX11_positiveOf_78 : decode cX11_positiveOf 78 = .ok (.invokestatic 211, 3) := by decide +kernel
theorem dX11_positiveOf_81 : decode cX11_positiveOf 81 = .ok (.if_icmp .ne 13, 3) := by decide +kernel
theorem dX11_positiveOf_84 : decode cX11_positiveOf 84 = .ok (.lload_n 2, 1) := by decide +kernel
theorem dX11_positiveOf_85 : decode cX11_positiveOf 85 = .ok (.lload 5, 2) := by decide +kernel
theorem dX11_positiveOf_87 : decode cX11_positiveOf 87 = .ok (.lcmp, 1) := by decide +kernel
theorem dX11_positiveOf_88 : decode cX11_positiveOf 88 = .ok (.ifCond .ge 37, 3) := by decide +kernel
theorem dX11_positiveOf_91 : decode cX11_positiveOf 91 = .ok (.goto 30, 3) := by decide +kernel
theorem dX11_positiveOf_94 : decode cX11_positiveOf 94 = .ok (.iload 4, 2) := by decide +kernel
theorem dX11_positiveOf_96 : decode cX11_positiveOf 96 = .ok (.bipush 62, 2) := by decide +kernel
theorem dX11_positiveOf_98 : decode cX11_positiveOf 98 = .ok (.invokestatic 211, 3) := by decide +kernel
theorem dX11_positiveOf_101 : decode cX11_positiveOf 101 = .ok (.if_icmp .ne 13, 3) := by decide +kernel
theorem dX11_positiveOf_104 : decode cX11_positiveOf 104 = .ok (.lload_n 2, 1) := by decide +kernel
theorem dX11_positiveOf_105 : decode cX11_positiveOf 105 = .ok (.lload 5, 2) := by decide +kernel
theorem dX11_positiveOf_107 : decode cX11_positiveOf 107 = .ok (.lcmp, 1) := by decide +kernel
theorem dX11_positiveOf_108 : decode cX11_positiveOf 108 = .ok (.ifCond .le 17, 3) := by decide +kernel
theorem dX11_positiveOf_111 : decode cX11_positiveOf 111 = .ok (.goto 10, 3) := by decide +kernel
theorem dX11_positiveOf_114 : decode cX11_positiveOf 114 = .ok (.lload_n 2, 1) := by decide +kernel
theorem dX11_positiveOf_115 : decode cX11_positiveOf 115 = .ok (.lload 5, 2) := by decide +kernel
theorem dX11_positiveOf_117 : decode cX11_positiveOf 117 = .ok (.lcmp, 1) := by decide +kernel
theorem dX11_positiveOf_118 : decode cX11_positiveOf 118 = .ok (.ifCond .ne 7, 3) := by decide +kernel
theorem dX11_positiveOf_121 : decode cX11_positiveOf 121 = .ok (.iconst 1, 1) := by decide +kernel
theorem dX11_positiveOf_122 : decode cX11_positiveOf 122 = .ok (.goto 4, 3) := by decide +kernel
theorem dX11_positiveOf_125 : decode cX11_positiveOf 125 = .ok (.iconst 0, 1) := by decide +kernel
theorem dX11_positiveOf_126 : decode cX11_positiveOf 126 = .ok (.ireturn, 1) := by decide +kernel
theorem dX11_setsNone_0 : decode cX11_setsNone 0 = .ok (.iconst 0, 1) := by decide +kernel
theorem dX11_setsNone_1 : decode cX11_setsNone 1 = .ok (.istore_n 2, 1) := by decide +kernel
theorem dX11_setsNone_2 : decode cX11_setsNone 2 = .ok (.iload_n 2, 1) := by decide +kernel
theorem dX11_setsNone_3 : decode cX11_setsNone 3 = .ok (.bipush 10, 2) := by decide +kernel
theorem dX11_setsNone_5 : decode cX11_setsNone 5 = .ok (.if_icmp .ge 16, 3) := by decide +kernel
theorem dX11_setsNone_8 : decode cX11_setsNone 8 = .ok (.aload_n 0, 1) := by decide +kernel
theorem dX11_setsNone_9 : decode cX11_setsNone 9 = .ok (.getfield 59, 3) := by decide +kernel
theorem dX11_setsNone_12 : decode cX11_setsNone 12 = .ok (.iload_n 2, 1) := by decide +kernel
theorem dX11_setsNone_13 : decode cX11_setsNone 13 = .ok (.iconst (-1), 1) := by decide +kernel
theorem dX11_setsNone_14 : decode cX11_setsNone 14 = .ok (.iastore, 1) := by decide +kernel
theorem dX11_setsNone_15 : decode cX11_setsNone 15 = .ok (.iinc 2 1, 3) := by decide +kernel
theorem dX11_setsNone_18 : decode cX11_setsNone 18 = .ok (.goto (-16), 3) := by decide +kernel
theorem dX11_setsNone_21 : decode cX11_setsNone 21 = .ok (.aload_n 0, 1) := by decide +kernel
theorem dX11_setsNone_22 : decode cX11_setsNone 22 = .ok (.getfield 59, 3) := by decide +kernel
theorem dX11_setsNone_25 : decode cX11_setsNone 25 = .ok (.iconst 4, 1) := by decide +kernel
theorem dX11_setsNone_26 : decode cX11_setsNone 26 = .ok (.iload_n 1, 1) := by decide +kernel
theorem dX11_setsNone_27 : decode cX11_setsNone 27 = .ok (.iastore, 1) := by decide +kernel
theorem dX11_setsNone_28 : decode cX11_setsNone 28 = .ok (.aload_n 0, 1) := by decide +kernel
theorem dX11_setsNone_29 : decode cX11_setsNone 29 = .ok (.getfield 59, 3) := by decide +kernel
theorem dX11_setsNone_32 : decode cX11_setsNone 32 = .ok (.iconst 5, 1) := by decide +kernel
theorem dX11_setsNone_33 : decode cX11_setsNone 33 = .ok (.aload_n 0, 1) := by decide +kernel
theorem dX11_setsNone_34 : decode cX11_setsNone 34 = .ok (.getfield 24, 3) := by decide +kernel
theorem dX11_setsNone_37 : decode cX11_setsNone 37 = .ok (.bipush 74, 2) := by decide +kernel
theorem dX11_setsNone_39 : decode cX11_setsNone 39 = .ok (.iaload, 1) := by decide +kernel
theorem dX11_setsNone_40 : decode cX11_setsNone 40 = .ok (.iastore, 1) := by decide +kernel
theorem dX11_setsNone_41 : decode cX11_setsNone 41 = .ok (.aload_n 0, 1) := by decide +kernel
theorem dX11_setsNone_42 : decode cX11_setsNone 42 = .ok (.getfield 59, 3) := by decide +kernel
theorem dX11_setsNone_45 : decode cX11_setsNone 45 = .ok (.bipush 8, 2) := by decide +kernel
theorem dX11_setsNone_47 : decode cX11_setsNone 47 = .ok (.aload_n 0, 1) := by decide +kernel
theorem dX11_setsNone_48 : decode cX11_setsNone 48 = .ok (.getfield 24, 3) := by decide +kernel
theorem dX11_setsNone_51 : decode cX11_setsNone 51 = .ok (.iconst 0, 1) := by decide +kernel
theorem dX11_setsNone_52 : decode cX11_setsNone 52 = .ok (.iaload, 1) := by decide +kernel
theorem dX11_setsNone_53 : decode cX11_setsNone 53 = .ok (.iastore, 1) := by decide +kernel
theorem dX11_setsNone_54 : decode cX11_setsNone 54 = .ok (.aload_n 0, 1) := by decide +kernel
theorem dX11_setsNone_55 : decode cX11_setsNone 55 = .ok (.getfield 59, 3) := by decide +kernel
theorem dX11_setsNone_58 : decode cX11_setsNone 58 = .ok (.bipush 9, 2) := by decide +kernel
theorem dX11_setsNone_60 : decode cX11_setsNone 60 = .ok (.aload_n 0, 1) := by decide +kernel
theorem dX11_setsNone_61 : decode cX11_setsNone 61 = .ok (.getfield 24, 3) := by decide +kernel
theorem dX11_setsNone_64 : decode cX11_setsNone 64 = .ok (.iconst 2, 1) := by decide +kernel
theorem dX11_setsNone_65 : decode cX11_setsNone 65 = .ok (.iaload, 1) := by decide +kernel
theorem dX11_setsNone_66 : decode cX11_setsNone 66 = .ok (.iastore, 1) := by decide +kernel
theorem dX11_setsNone_67 : decode cX11_setsNone 67 = .ok (.return_, 1) := by decide +kernel
theorem dX11_setsHand_0 : decode cX11_setsHand 0 = .ok (.aload_n 0, 1) := by decide +kernel
theorem dX11_setsHand_1 : decode cX11_setsHand 1 = .ok (.iload_n 3, 1) := by decide +kernel
theorem dX11_setsHand_2 : decode cX11_setsHand 2 = .ok (.invokevirtual 303, 3) := by decide +kernel
theorem dX11_setsHand_5 : decode cX11_setsHand 5 = .ok (.aload_n 0, 1) := by decide +kernel
theorem dX11_setsHand_6 : decode cX11_setsHand 6 = .ok (.getfield 59, 3) := by decide +kernel
theorem dX11_setsHand_9 : decode cX11_setsHand 9 = .ok (.iconst 0, 1) := by decide +kernel
theorem dX11_setsHand_10 : decode cX11_setsHand 10 = .ok (.iload_n 1, 1) := by decide +kernel
theorem dX11_setsHand_11 : decode cX11_setsHand 11 = .ok (.iastore, 1) := by decide +kernel
theorem dX11_setsHand_12 : decode cX11_setsHand 12 = .ok (.aload_n 0, 1) := by decide +kernel
theorem dX11_setsHand_13 : decode cX11_setsHand 13 = .ok (.getfield 59, 3) := by decide +kernel
theorem dX11_setsHand_16 : decode cX11_setsHand 16 = .ok (.iconst 1, 1) := by decide +kernel
theorem dX11_setsHand_17 : decode cX11_setsHand 17 = .ok (.iload_n 2, 1) := by decide +kernel
theorem dX11_setsHand_18 : decode cX11_setsHand 18 = .ok (.iastore, 1) := by decide +kernel
theorem dX11_setsHand_19 : decode cX11_setsHand 19 = .ok (.aload_n 0, 1) := by decide +kernel
theorem dX11_setsHand_20 : decode cX11_setsHand 20 = .ok (.getfield 59, 3) := by decide +kernel
theorem dX11_setsHand_23 : decode cX11_setsHand 23 = .ok (.iconst 2, 1) := by decide +kernel
theorem dX11_setsHand_24 : decode cX11_setsHand 24 = .ok (.aload_n 0, 1) := by decide +kernel
theorem dX11_setsHand_25 : decode cX11_setsHand 25 = .ok (.getfield 24, 3) := by decide +kernel
theorem dX11_setsHand_28 : decode cX11_setsHand 28 = .ok (.iconst 2, 1) := by decide +kernel
theorem dX11_setsHand_29 : decode cX11_setsHand 29 = .ok (.iaload, 1) := by decide +kernel
theorem dX11_setsHand_30 : decode cX11_setsHand 30 = .ok (.aload_n 0, 1) := by decide +kernel
theorem dX11_setsHand_31 : decode cX11_setsHand 31 = .ok (.getfield 24, 3) := by decide +kernel
theorem dX11_setsHand_34 : decode cX11_setsHand 34 = .ok (.bipush 31, 2) := by decide +kernel
theorem dX11_setsHand_36 : decode cX11_setsHand 36 = .ok (.iload_n 1, 1) := by decide +kernel
theorem dX11_setsHand_37 : decode cX11_setsHand 37 = .ok (.iadd, 1) := by decide +kernel
theorem dX11_setsHand_38 : decode cX11_setsHand 38 = .ok (.iaload, 1) := by decide +kernel
theorem dX11_setsHand_39 : decode cX11_setsHand 39 = .ok (.isub, 1) := by decide +kernel
theorem dX11_setsHand_40 : decode cX11_setsHand 40 = .ok (.iastore, 1) := by decide +kernel
theorem dX11_setsHand_41 : decode cX11_setsHand 41 = .ok (.aload_n 0, 1) := by decide +kernel
theorem dX11_setsHand_42 : decode cX11_setsHand 42 = .ok (.getfield 59, 3) := by decide +kernel
theorem dX11_setsHand_45 : decode cX11_setsHand 45 = .ok (.bipush 6, 2) := by decide +kernel
theorem dX11_setsHand_47 : decode cX11_setsHand 47 = .ok (.aload_n 0, 1) := by decide +kernel
theorem dX11_setsHand_48 : decode cX11_setsHand 48 = .ok (.getfield 24, 3) := by decide +kernel
theorem dX11_setsHand_51 : decode cX11_setsHand 51 = .ok (.iconst 3, 1) := by decide +kernel
theorem dX11_setsHand_52 : decode cX11_setsHand 52 = .ok (.iload_n 1, 1) := by decide +kernel
theorem dX11_setsHand_53 : decode cX11_setsHand 53 = .ok (.iadd, 1) := by decide +kernel
theorem dX11_setsHand_54 : decode cX11_setsHand 54 = .ok (.iaload, 1) := by decide +kernel
theorem dX11_setsHand_55 : decode cX11_setsHand 55 = .ok (.iastore, 1) := by decide +kernel
theorem dX11_setsHand_56 : decode cX11_setsHand 56 = .ok (.return_, 1) := by decide +kernel
theorem dX11_tells_0 : decode cX11_tells 0 = .ok (.aload_n 0, 1) := by decide +kernel
theorem dX11_tells_1 : decode cX11_tells 1 = .ok (.getfield 24, 3) := by decide +kernel
theorem dX11_tells_4 : decode cX11_tells 4 = .ok (.bipush 79, 2) := by decide +kernel
theorem dX11_tells_6 : decode cX11_tells 6 = .ok (.iaload, 1) := by decide +kernel
theorem dX11_tells_7 : decode cX11_tells 7 = .ok (.iconst (-1), 1) := by decide +kernel
theorem dX11_tells_8 : decode cX11_tells 8 = .ok (.if_icmp .ne 5, 3) := by decide +kernel
theorem dX11_tells_11 : decode cX11_tells 11 = .ok (.iload_n 3, 1) := by decide +kernel
theorem dX11_tells_12 : decode cX11_tells 12 = .ok (.ireturn, 1) := by decide +kernel
theorem dX11_tells_13 : decode cX11_tells 13 = .ok (.aload_n 0, 1) := by decide +kernel
theorem dX11_tells_14 : decode cX11_tells 14 = .ok (.iconst 0, 1) := by decide +kernel
theorem dX11_tells_15 : decode cX11_tells 15 = .ok (.putfield 279, 3) := by decide +kernel
theorem dX11_tells_18 : decode cX11_tells 18 = .ok (.iload_n 3, 1) := by decide +kernel
theorem dX11_tells_19 : decode cX11_tells 19 = .ok (.i2l, 1) := by decide +kernel
theorem dX11_tells_20 : decode cX11_tells 20 = .ok (.lstore 4, 2) := by decide +kernel
theorem dX11_tells_22 : decode cX11_tells 22 = .ok (.aload_n 0, 1) := by decide +kernel
theorem dX11_tells_23 : decode cX11_tells 23 = .ok (.sipush 400, 3) := by decide +kernel
theorem dX11_tells_26 : decode cX11_tells 26 = .ok (.aload_n 0, 1) := by decide +kernel
theorem dX11_tells_27 : decode cX11_tells 27 = .ok (.getfield 24, 3) := by decide +kernel
theorem dX11_tells_30 : decode cX11_tells 30 = .ok (.bipush 79, 2) := by decide +kernel
theorem dX11_tells_32 : decode cX11_tells 32 = .ok (.iaload, 1) := by decide +kernel
theorem dX11_tells_33 : decode cX11_tells 33 = .ok (.imul, 1) := by decide +kernel
theorem dX11_tells_34 : decode cX11_tells 34 = .ok (.putfield 249, 3) := by decide +kernel
theorem dX11_tells_37 : decode cX11_tells 37 = .ok (.aload_n 0, 1) := by decide +kernel
theorem dX11_tells_38 : decode cX11_tells 38 = .ok (.aload_n 0, 1) := by decide +kernel
theorem dX11_tells_39 : decode cX11_tells 39 = .ok (.getfield 249, 3) := by decide +kernel
theorem dX11_tells_42 : decode cX11_tells 42 = .ok (.aload_n 0, 1) := by decide +kernel
theorem dX11_tells_43 : decode cX11_tells 43 = .ok (.getfield 24, 3) := by decide +kernel
theorem dX11_tells_46 : decode cX11_tells 46 = .ok (.bipush 80, 2) := by decide +kernel
theorem dX11_tells_48 : decode cX11_tells 48 = .ok (.aload_n 0, 1) := by decide +kernel
theorem dX11_tells_49 : decode cX11_tells 49 = .ok (.getfield 24, 3) := by decide +kernel
theorem dX11_tells_52 : decode cX11_tells 52 = .ok (.bipush 79, 2) := by decide +kernel
theorem dX11_tells_54 : decode cX11_tells 54 = .ok (.iaload, 1) := by decide +kernel
theorem dX11_tells_55 : decode cX11_tells 55 = .ok (.iadd, 1) := by decide +kernel
theorem dX11_tells_56 : decode cX11_tells 56 = .ok (.iaload, 1) := by decide +kernel
theorem dX11_tells_57 : decode cX11_tells 57 = .ok (.iadd, 1) := by decide +kernel
theorem dX11_tells_58 : decode cX11_tells 58 = .ok (.putfield 246, 3) := by decide +kernel
theorem dX11_tells_61 : decode cX11_tells 61 = .ok (.aload_n 0, 1) := by decide +kernel
theorem dX11_tells_62 : decode cX11_tells 62 = .ok (.getfield 249, 3) := by decide +kernel
theorem dX11_tells_65 : decode cX11_tells 65 = .ok (.aload_n 0, 1) := by decide +kernel
theorem dX11_tells_66 : decode cX11_tells 66 = .ok (.getfield 246, 3) := by decide +kernel
theorem dX11_tells_69 : decode cX11_tells 69 = .ok (.if_icmp .ge 147, 3) := by decide +kernel
theorem dX11_tells_72 : decode cX11_tells 72 = .ok (.aload_n 0, 1) := by decide +kernel
theorem dX11_tells_73 : decode cX11_tells 73 = .ok (.aload_n 0, 1) := by decide +kernel
theorem dX11_tells_74 : decode cX11_tells 74 = .ok (.getfield 249, 3) := by decide +kernel
theorem dX11_tells_77 : decode cX11_tells 77 = .ok (.invokevirtual 252, 3) := by decide +kernel
theorem dX11_tells_80 : decode cX11_tells 80 = .ok (.istore 6, 2) := by decide +kernel
theorem dX11_tells_82 : decode cX11_tells 82 = .ok (.aload_n 0, 1) := by decide +kernel
theorem dX11_tells_83 : decode cX11_tells 83 = .ok (.iconst 0, 1) := by decide +kernel
theorem dX11_tells_84 : decode cX11_tells 84 = .ok (.putfield 259, 3) := by decide +kernel
theorem dX11_tells_87 : decode cX11_tells 87 = .ok (.aload_n 0, 1) := by decide +kernel
theorem dX11_tells_88 : decode cX11_tells 88 = .ok (.dup, 1) := by decide +kernel
theorem dX11_tells_89 : decode cX11_tells 89 = .ok (.getfield 249, 3) := by decide +kernel
theorem dX11_tells_92 : decode cX11_tells 92 = .ok (.iconst 1, 1) := by decide +kernel
theorem dX11_tells_93 : decode cX11_tells 93 = .ok (.iadd, 1) := by decide +kernel
theorem dX11_tells_94 : decode cX11_tells 94 = .ok (.putfield 249, 3) := by decide +kernel
theorem dX11_tells_97 : decode cX11_tells 97 = .ok (.iload 6, 2) := by decide +kernel
theorem dX11_tells_99 : decode cX11_tells 99 = .ok (.iconst 3, 1) := by decide +kernel
theorem dX11_tells_100 : decode cX11_tells 100 = .ok (.if_icmp .ne 7, 3) := by decide +kernel
theorem dX11_tells_103 : decode cX11_tells 103 = .ok (.lconst 1, 1) := by decide +kernel
theorem dX11_tells_104 : decode cX11_tells 104 = .ok (.goto 8, 3) := by decide +kernel
theorem dX11_tells_107 : decode cX11_tells 107 = .ok (.aload_n 0, 1) := by decide +kernel
theorem dX11_tells_108 : decode cX11_tells 108 = .ok (.iconst 1, 1) := by decide +kernel
theorem dX11_tells_109 : decode cX11_tells 109 = .ok (.invokevirtual 276, 3) := by decide +kernel
theorem dX11_tells_112 : decode cX11_tells 112 = .ok (.lstore 7, 2) := by decide +kernel
theorem dX11_tells_114 : decode cX11_tells 114 = .ok (.aload_n 0, 1) := by decide +kernel
theorem dX11_tells_115 : decode cX11_tells 115 = .ok (.getfield 259, 3) := by decide +kernel
theorem dX11_tells_118 : decode cX11_tells 118 = .ok (.istore 9, 2) := by decide +kernel
theorem dX11_tells_120 : decode cX11_tells 120 = .ok (.aload_n 0, 1) := by decide +kernel
theorem dX11_tells_121 : decode cX11_tells 121 = .ok (.iconst 0, 1) := by decide +kernel
theorem dX11_tells_122 : decode cX11_tells 122 = .ok (.putfield 259, 3) := by decide +kernel
theorem dX11_tells_125 : decode cX11_tells 125 = .ok (.aload_n 0, 1) := by decide +kernel
theorem dX11_tells_126 : decode cX11_tells 126 = .ok (.iconst 4, 1) := by decide +kernel
theorem dX11_tells_127 : decode cX11_tells 127 = .ok (.invokevirtual 273, 3) := by decide +kernel
theorem dX11_tells_130 : decode cX11_tells 130 = .ok (.ifCond .eq 11, 3) := by decide +kernel
theorem dX11_tells_133 : decode cX11_tells 133 = .ok (.aload_n 0, 1) := by decide +kernel
theorem dX11_tells_134 : decode cX11_tells 134 = .ok (.iconst 1, 1) := by decide +kernel
theorem dX11_tells_135 : decode cX11_tells 135 = .ok (.invokevirtual 300, 3) := by decide +kernel
theorem dX11_tells_138 : decode cX11_tells 138 = .ok (.ifCond .eq 7, 3) := by decide +kernel
theorem dX11_tells_141 : decode cX11_tells 141 = .ok (.iconst 1, 1) := by decide +kernel
theorem dX11_tells_142 : decode cX11_tells 142 = .ok (.goto 4, 3) := by decide +kernel
theorem dX11_tells_145 : decode cX11_tells 145 = .ok (.iconst 0, 1) := by decide +kernel
theorem dX11_tells_146 : decode cX11_tells 146 = .ok (.istore 10, 2) := by decide +kernel
theorem dX11_tells_148 : decode cX11_tells 148 = .ok (.iload 6, 2) := by decide +kernel
theorem dX11_tells_150 : decode cX11_tells 150 = .ok (.iload_n 1, 1) := by decide +kernel
theorem dX11_tells_151 : decode cX11_tells 151 = .ok (.if_icmp .ne 52, 3) := by decide +kernel
theorem dX11_tells_154 : decode cX11_tells 154 = .ok (.iload 10, 2) := by decide +kernel
theorem dX11_tells_156 : decode cX11_tells 156 = .ok (.ifCond .eq 47, 3) := by decide +kernel
theorem dX11_tells_159 : decode cX11_tells 159 = .ok (.aload_n 0, 1) := by decide +kernel
theorem dX11_tells_160 : decode cX11_tells 160 = .ok (.getfield 259, 3) := by decide +kernel
theorem dX11_tells_163 : decode cX11_tells 163 = .ok (.ifCond .ne 40, 3) := by decide +kernel
theorem dX11_tells_166 : decode cX11_tells 166 = .ok (.iload 9, 2) := by decide +kernel
theorem dX11_tells_168 : decode cX11_tells 168 = .ok (.ifCond .ne 35, 3) := by decide +kernel
theorem dX11_tells_171 : decode cX11_tells 171 = .ok (.lload 7, 2) := by decide +kernel
theorem dX11_tells_173 : decode cX11_tells 173 = .ok (.iload_n 2, 1) := by decide +kernel
theorem dX11_tells_174 : decode cX11_tells 174 = .ok (.i2l, 1) := by decide +kernel
theorem dX11_tells_175 : decode cX11_tells 175 = .ok (.lcmp, 1) := by decide +kernel
theorem dX11_tells_176 : decode cX11_tells 176 = .ok (.ifCond .ge 8, 3) := by decide +kernel
theorem dX11_tells_179 : decode cX11_tells 179 = .ok (.iload_n 2, 1) := by decide +kernel
theorem dX11_tells_180 : decode cX11_tells 180 = .ok (.i2l, 1) := by decide +kernel
theorem dX11_tells_181 : decode cX11_tells 181 = .ok (.goto 20, 3) := by decide +kernel
theorem dX11_tells_184 : decode cX11_tells 184 = .ok (.lload 7, 2) := by decide +kernel
theorem dX11_tells_186 : decode cX11_tells 186 = .ok (.ldc2_w 306, 3) := by decide +kernel
theorem dX11_tells_189 : decode cX11_tells 189 = .ok (.lcmp, 1) := by decide +kernel
theorem dX11_tells_190 : decode cX11_tells 190 = .ok (.ifCond .le 9, 3) := by decide +kernel
theorem dX11_tells_193 : decode cX11_tells 193 = .ok (.ldc2_w 306, 3) := by decide +kernel
theorem dX11_tells_196 : decode cX11_tells 196 = .ok (.goto 5, 3) := by decide +kernel
theorem dX11_tells_199 : decode cX11_tells 199 = .ok (.lload 7, 2) := by decide +kernel
theorem dX11_tells_201 : decode cX11_tells 201 = .ok (.lstore 4, 2) := by decide +kernel
theorem dX11_tells_203 : decode cX11_tells 203 = .ok (.aload_n 0, 1) := by decide +kernel
theorem dX11_tells_204 : decode cX11_tells 204 = .ok (.dup, 1) := by decide +kernel
theorem dX11_tells_205 : decode cX11_tells 205 = .ok (.getfield 249, 3) := by decide +kernel
theorem dX11_tells_208 : decode cX11_tells 208 = .ok (.iconst 1, 1) := by decide +kernel
theorem dX11_tells_209 : decode cX11_tells 209 = .ok (.iadd, 1) := by decide +kernel
theorem dX11_tells_210 : decode cX11_tells 210 = .ok (.putfield 249, 3) := by decide +kernel
theorem dX11_tells_213 : decode cX11_tells 213 = .ok (.goto (-152), 3) := by decide +kernel
theorem dX11_tells_216 : decode cX11_tells 216 = .ok (.lload 4, 2) := by decide +kernel
theorem dX11_tells_218 : decode cX11_tells 218 = .ok (.l2i, 1) := by decide +kernel
theorem dX11_tells_219 : decode cX11_tells 219 = .ok (.ireturn, 1) := by decide +kernel
theorem dX11_casksIn_0 : decode cX11_casksIn 0 = .ok (.aload_n 0, 1) := by decide +kernel
theorem dX11_casksIn_1 : decode cX11_casksIn 1 = .ok (.iload_n 2, 1) := by decide +kernel
theorem dX11_casksIn_2 : decode cX11_casksIn 2 = .ok (.invokevirtual 303, 3) := by decide +kernel
theorem dX11_casksIn_5 : decode cX11_casksIn 5 = .ok (.aload_n 0, 1) := by decide +kernel
theorem dX11_casksIn_6 : decode cX11_casksIn 6 = .ok (.getfield 59, 3) := by decide +kernel
theorem dX11_casksIn_9 : decode cX11_casksIn 9 = .ok (.iconst 3, 1) := by decide +kernel
theorem dX11_casksIn_10 : decode cX11_casksIn 10 = .ok (.iload_n 1, 1) := by decide +kernel
theorem dX11_casksIn_11 : decode cX11_casksIn 11 = .ok (.iastore, 1) := by decide +kernel
theorem dX11_casksIn_12 : decode cX11_casksIn 12 = .ok (.aload_n 0, 1) := by decide +kernel
theorem dX11_casksIn_13 : decode cX11_casksIn 13 = .ok (.getfield 59, 3) := by decide +kernel
theorem dX11_casksIn_16 : decode cX11_casksIn 16 = .ok (.bipush 7, 2) := by decide +kernel
theorem dX11_casksIn_18 : decode cX11_casksIn 18 = .ok (.aload_n 0, 1) := by decide +kernel
theorem dX11_casksIn_19 : decode cX11_casksIn 19 = .ok (.getfield 24, 3) := by decide +kernel
theorem dX11_casksIn_22 : decode cX11_casksIn 22 = .ok (.bipush 19, 2) := by decide +kernel
theorem dX11_casksIn_24 : decode cX11_casksIn 24 = .ok (.iload_n 1, 1) := by decide +kernel
theorem dX11_casksIn_25 : decode cX11_casksIn 25 = .ok (.iadd, 1) := by decide +kernel
theorem dX11_casksIn_26 : decode cX11_casksIn 26 = .ok (.iaload, 1) := by decide +kernel
theorem dX11_casksIn_27 : decode cX11_casksIn 27 = .ok (.iastore, 1) := by decide +kernel
theorem dX11_casksIn_28 : decode cX11_casksIn 28 = .ok (.aload_n 0, 1) := by decide +kernel
theorem dX11_casksIn_29 : decode cX11_casksIn 29 = .ok (.iconst 1, 1) := by decide +kernel
theorem dX11_casksIn_30 : decode cX11_casksIn 30 = .ok (.iconst 1, 1) := by decide +kernel
theorem dX11_casksIn_31 : decode cX11_casksIn 31 = .ok (.bipush 20, 2) := by decide +kernel
theorem dX11_casksIn_33 : decode cX11_casksIn 33 = .ok (.invokevirtual 308, 3) := by decide +kernel
theorem dX11_casksIn_36 : decode cX11_casksIn 36 = .ok (.ireturn, 1) := by decide +kernel
theorem dX11_eatsFor_0 : decode cX11_eatsFor 0 = .ok (.aload_n 0, 1) := by decide +kernel
theorem dX11_eatsFor_1 : decode cX11_eatsFor 1 = .ok (.iload_n 1, 1) := by decide +kernel
theorem dX11_eatsFor_2 : decode cX11_eatsFor 2 = .ok (.aload_n 0, 1) := by decide +kernel
theorem dX11_eatsFor_3 : decode cX11_eatsFor 3 = .ok (.getfield 24, 3) := by decide +kernel
theorem dX11_eatsFor_6 : decode cX11_eatsFor 6 = .ok (.bipush 23, 2) := by decide +kernel
theorem dX11_eatsFor_8 : decode cX11_eatsFor 8 = .ok (.iload_n 1, 1) := by decide +kernel
theorem dX11_eatsFor_9 : decode cX11_eatsFor 9 = .ok (.iadd, 1) := by decide +kernel
theorem dX11_eatsFor_10 : decode cX11_eatsFor 10 = .ok (.iaload, 1) := by decide +kernel
theorem dX11_eatsFor_11 : decode cX11_eatsFor 11 = .ok (.aload_n 0, 1) := by decide +kernel
theorem dX11_eatsFor_12 : decode cX11_eatsFor 12 = .ok (.invokevirtual 108, 3) := by decide +kernel
theorem dX11_eatsFor_15 : decode cX11_eatsFor 15 = .ok (.invokevirtual 312, 3) := by decide +kernel
theorem dX11_eatsFor_18 : decode cX11_eatsFor 18 = .ok (.aload_n 0, 1) := by decide +kernel
theorem dX11_eatsFor_19 : decode cX11_eatsFor 19 = .ok (.iconst 2, 1) := by decide +kernel
theorem dX11_eatsFor_20 : decode cX11_eatsFor 20 = .ok (.iconst 0, 1) := by decide +kernel
theorem dX11_eatsFor_21 : decode cX11_eatsFor 21 = .ok (.iconst 5, 1) := by decide +kernel
theorem dX11_eatsFor_22 : decode cX11_eatsFor 22 = .ok (.invokevirtual 308, 3) := by decide +kernel
theorem dX11_eatsFor_25 : decode cX11_eatsFor 25 = .ok (.ireturn, 1) := by decide +kernel
theorem dX11_deserts_0 : decode cX11_deserts 0 = .ok (.aload_n 0, 1) := by decide +kernel
theorem dX11_deserts_1 : decode cX11_deserts 1 = .ok (.iload_n 1, 1) := by decide +kernel
theorem dX11_deserts_2 : decode cX11_deserts 2 = .ok (.iload_n 2, 1) := by decide +kernel
theorem dX11_deserts_3 : decode cX11_deserts 3 = .ok (.iload_n 3, 1) := by decide +kernel
theorem dX11_deserts_4 : decode cX11_deserts 4 = .ok (.invokevirtual 312, 3) := by decide +kernel
theorem dX11_deserts_7 : decode cX11_deserts 7 = .ok (.aload_n 0, 1) := by decide +kernel
theorem dX11_deserts_8 : decode cX11_deserts 8 = .ok (.iconst 3, 1) := by decide +kernel
theorem dX11_deserts_9 : decode cX11_deserts 9 = .ok (.iconst 0, 1) := by decide +kernel
theorem dX11_deserts_10 : decode cX11_deserts 10 = .ok (.iconst 0, 1) := by decide +kernel
theorem dX11_deserts_11 : decode cX11_deserts 11 = .ok (.invokevirtual 308, 3) := by decide +kernel
theorem dX11_deserts_14 : decode cX11_deserts 14 = .ok (.iconst 1, 1) := by decide +kernel
theorem dX11_deserts_15 : decode cX11_deserts 15 = .ok (.if_icmp .ne 7, 3) := by decide +kernel
theorem dX11_deserts_18 : decode cX11_deserts 18 = .ok (.iconst 1, 1) := by decide +kernel
theorem dX11_deserts_19 : decode cX11_deserts 19 = .ok (.goto 4, 3) := by decide +kernel
theorem dX11_deserts_22 : decode cX11_deserts 22 = .ok (.iconst 0, 1) := by decide +kernel
theorem dX11_deserts_23 : decode cX11_deserts 23 = .ok (.ireturn, 1) := by decide +kernel
theorem dX11_allEat_0 : decode cX11_allEat 0 = .ok (.iconst 0, 1) := by decide +kernel
theorem dX11_allEat_1 : decode cX11_allEat 1 = .ok (.istore_n 1, 1) := by decide +kernel
theorem dX11_allEat_2 : decode cX11_allEat 2 = .ok (.iload_n 1, 1) := by decide +kernel
theorem dX11_allEat_3 : decode cX11_allEat 3 = .ok (.aload_n 0, 1) := by decide +kernel
theorem dX11_allEat_4 : decode cX11_allEat 4 = .ok (.getfield 24, 3) := by decide +kernel
theorem dX11_allEat_7 : decode cX11_allEat 7 = .ok (.bipush 75, 2) := by decide +kernel
theorem dX11_allEat_9 : decode cX11_allEat 9 = .ok (.iaload, 1) := by decide +kernel
theorem dX11_allEat_10 : decode cX11_allEat 10 = .ok (.if_icmp .ge 32, 3) := by decide +kernel
theorem dX11_allEat_13 : decode cX11_allEat 13 = .ok (.aload_n 0, 1) := by decide +kernel
theorem dX11_allEat_14 : decode cX11_allEat 14 = .ok (.getfield 62, 3) := by decide +kernel
theorem dX11_allEat_17 : decode cX11_allEat 17 = .ok (.iload_n 1, 1) := by decide +kernel
theorem dX11_allEat_18 : decode cX11_allEat 18 = .ok (.aload_n 0, 1) := by decide +kernel
theorem dX11_allEat_19 : decode cX11_allEat 19 = .ok (.iload_n 1, 1) := by decide +kernel
theorem dX11_allEat_20 : decode cX11_allEat 20 = .ok (.invokevirtual 118, 3) := by decide +kernel
theorem dX11_allEat_23 : decode cX11_allEat 23 = .ok (.ifCond .eq 11, 3) := by decide +kernel
theorem dX11_allEat_26 : decode cX11_allEat 26 = .ok (.aload_n 0, 1) := by decide +kernel
theorem dX11_allEat_27 : decode cX11_allEat 27 = .ok (.iload_n 1, 1) := by decide +kernel
theorem dX11_allEat_28 : decode cX11_allEat 28 = .ok (.invokevirtual 105, 3) := by decide +kernel
theorem dX11_allEat_31 : decode cX11_allEat 31 = .ok (.goto 4, 3) := by decide +kernel
theorem dX11_allEat_34 : decode cX11_allEat 34 = .ok (.iconst 0, 1) := by decide +kernel
theorem dX11_allEat_35 : decode cX11_allEat 35 = .ok (.iastore, 1) := by decide +kernel
theorem dX11_allEat_36 : decode cX11_allEat 36 = .ok (.iinc 1 1, 3) := by decide +kernel
theorem dX11_allEat_39 : decode cX11_allEat 39 = .ok (.goto (-37), 3) := by decide +kernel
theorem dX11_allEat_42 : decode cX11_allEat 42 = .ok (.return_, 1) := by decide +kernel
theorem dX11_offNow_0 : decode cX11_offNow 0 = .ok (.aload_n 0, 1) := by decide +kernel
theorem dX11_offNow_1 : decode cX11_offNow 1 = .ok (.invokevirtual 108, 3) := by decide +kernel
theorem dX11_offNow_4 : decode cX11_offNow 4 = .ok (.istore_n 1, 1) := by decide +kernel
theorem dX11_offNow_5 : decode cX11_offNow 5 = .ok (.iconst 0, 1) := by decide +kernel
theorem dX11_offNow_6 : decode cX11_offNow 6 = .ok (.istore_n 2, 1) := by decide +kernel
theorem dX11_offNow_7 : decode cX11_offNow 7 = .ok (.iconst 0, 1) := by decide +kernel
theorem dX11_offNow_8 : decode cX11_offNow 8 = .ok (.istore_n 3, 1) := by decide +kernel
theorem dX11_offNow_9 : decode cX11_offNow 9 = .ok (.iload_n 3, 1) := by decide +kernel
theorem dX11_offNow_10 : decode cX11_offNow 10 = .ok (.aload_n 0, 1) := by decide +kernel
theorem dX11_offNow_11 : decode cX11_offNow 11 = .ok (.getfield 24, 3) := by decide +kernel
theorem dX11_offNow_14 : decode cX11_offNow 14 = .ok (.bipush 75, 2) := by decide +kernel
theorem dX11_offNow_16 : decode cX11_offNow 16 = .ok (.iaload, 1) := by decide +kernel
theorem dX11_offNow_17 : decode cX11_offNow 17 = .ok (.if_icmp .ge 48, 3) := by decide +kernel
theorem dX11_offNow_20 : decode cX11_offNow 20 = .ok (.aload_n 0, 1) := by decide +kernel
theorem dX11_offNow_21 : decode cX11_offNow 21 = .ok (.iload_n 3, 1) := by decide +kernel
theorem dX11_offNow_22 : decode cX11_offNow 22 = .ok (.invokevirtual 118, 3) := by decide +kernel
theorem dX11_offNow_25 : decode cX11_offNow 25 = .ok (.ifCond .ne 6, 3) := by decide +kernel
theorem dX11_offNow_28 : decode cX11_offNow 28 = .ok (.goto 31, 3) := by decide +kernel
theorem dX11_offNow_31 : decode cX11_offNow 31 = .ok (.iload_n 2, 1) := by decide +kernel
theorem dX11_offNow_32 : decode cX11_offNow 32 = .ok (.aload_n 0, 1) := by decide +kernel
theorem dX11_offNow_33 : decode cX11_offNow 33 = .ok (.iload_n 3, 1) := by decide +kernel
theorem dX11_offNow_34 : decode cX11_offNow 34 = .ok (.aload_n 0, 1) := by decide +kernel
theorem dX11_offNow_35 : decode cX11_offNow 35 = .ok (.getfield 24, 3) := by decide +kernel
theorem dX11_offNow_38 : decode cX11_offNow 38 = .ok (.bipush 23, 2) := by decide +kernel
theorem dX11_offNow_40 : decode cX11_offNow 40 = .ok (.iload_n 3, 1) := by decide +kernel
theorem dX11_offNow_41 : decode cX11_offNow 41 = .ok (.iadd, 1) := by decide +kernel
theorem dX11_offNow_42 : decode cX11_offNow 42 = .ok (.iaload, 1) := by decide +kernel
theorem dX11_offNow_43 : decode cX11_offNow 43 = .ok (.iload_n 1, 1) := by decide +kernel
theorem dX11_offNow_44 : decode cX11_offNow 44 = .ok (.invokevirtual 112, 3) := by decide +kernel
theorem dX11_offNow_47 : decode cX11_offNow 47 = .ok (.ifCond .eq 9, 3) := by decide +kernel
theorem dX11_offNow_50 : decode cX11_offNow 50 = .ok (.iconst 1, 1) := by decide +kernel
theorem dX11_offNow_51 : decode cX11_offNow 51 = .ok (.iload_n 3, 1) := by decide +kernel
theorem dX11_offNow_52 : decode cX11_offNow 52 = .ok (.ishl, 1) := by decide +kernel
theorem dX11_offNow_53 : decode cX11_offNow 53 = .ok (.goto 4, 3) := by decide +kernel
theorem dX11_offNow_56 : decode cX11_offNow 56 = .ok (.iconst 0, 1) := by decide +kernel
theorem dX11_offNow_57 : decode cX11_offNow 57 = .ok (.ior, 1) := by decide +kernel
theorem dX11_offNow_58 : decode cX11_offNow 58 = .ok (.istore_n 2, 1) := by decide +kernel
theorem dX11_offNow_59 : decode cX11_offNow 59 = .ok (.iinc 3 1, 3) := by decide +kernel
theorem dX11_offNow_62 : decode cX11_offNow 62 = .ok (.goto (-53), 3) := by decide +kernel
theorem dX11_offNow_65 : decode cX11_offNow 65 = .ok (.iload_n 2, 1) := by decide +kernel
theorem dX11_offNow_66 : decode cX11_offNow 66 = .ok (.ireturn, 1) := by decide +kernel
theorem dX11_goesOff_0 : decode cX11_goesOff 0 = .ok (.iconst 0, 1) := by decide +kernel
theorem dX11_goesOff_1 : decode cX11_goesOff 1 = .ok (.istore_n 2, 1) := by decide +kernel
theorem dX11_goesOff_2 : decode cX11_goesOff 2 = .ok (.iload_n 2, 1) := by decide +kernel
theorem dX11_goesOff_3 : decode cX11_goesOff 3 = .ok (.aload_n 0, 1) := by decide +kernel
theorem dX11_goesOff_4 : decode cX11_goesOff 4 = .ok (.getfield 24, 3) := by decide +kernel
theorem dX11_goesOff_7 : decode cX11_goesOff 7 = .ok (.bipush 75, 2) := by decide +kernel
theorem dX11_goesOff_9 : decode cX11_goesOff 9 = .ok (.iaload, 1) := by decide +kernel
theorem dX11_goesOff_10 : decode cX11_goesOff 10 = .ok (.if_icmp .ge 27, 3) := by decide +kernel
theorem dX11_goesOff_13 : decode cX11_goesOff 13 = .ok (.iload_n 1, 1) := by decide +kernel
theorem dX11_goesOff_14 : decode cX11_goesOff 14 = .ok (.iload_n 2, 1) := by decide +kernel
theorem dX11_goesOff_15 : decode cX11_goesOff 15 = .ok (.invokestatic 316, 3) := by decide +kernel
theorem dX11_goesOff_18 : decode cX11_goesOff 18 = .ok (.ifCond .eq 13, 3) := by decide +kernel
theorem dX11_goesOff_21 : decode cX11_goesOff 21 = .ok (.aload_n 0, 1) := by decide +kernel
theorem dX11_goesOff_22 : decode cX11_goesOff 22 = .ok (.getfield 24, 3) := by decide +kernel
theorem dX11_goesOff_25 : decode cX11_goesOff 25 = .ok (.bipush 11, 2) := by decide +kernel
theorem dX11_goesOff_27 : decode cX11_goesOff 27 = .ok (.iload_n 2, 1) := by decide +kernel
theorem dX11_goesOff_28 : decode cX11_goesOff 28 = .ok (.iadd, 1) := by decide +kernel
theorem dX11_goesOff_29 : decode cX11_goesOff 29 = .ok (.iconst 0, 1) := by decide +kernel
theorem dX11_goesOff_30 : decode cX11_goesOff 30 = .ok (.iastore, 1) := by decide +kernel
theorem dX11_goesOff_31 : decode cX11_goesOff 31 = .ok (.iinc 2 1, 3) := by decide +kernel
theorem dX11_goesOff_34 : decode cX11_goesOff 34 = .ok (.goto (-32), 3) := by decide +kernel
theorem dX11_goesOff_37 : decode cX11_goesOff 37 = .ok (.iload_n 1, 1) := by decide +kernel
theorem dX11_goesOff_38 : decode cX11_goesOff 38 = .ok (.invokestatic 319, 3) := by decide +kernel
theorem dX11_goesOff_41 : decode cX11_goesOff 41 = .ok (.ireturn, 1) := by decide +kernel
theorem dX11_hunts_0 : decode cX11_hunts 0 = .ok (.aload_n 0, 1) := by decide +kernel
theorem dX11_hunts_1 : decode cX11_hunts 1 = .ok (.iload_n 1, 1) := by decide +kernel
theorem dX11_hunts_2 : decode cX11_hunts 2 = .ok (.aload_n 0, 1) := by decide +kernel
theorem dX11_hunts_3 : decode cX11_hunts 3 = .ok (.invokevirtual 108, 3) := by decide +kernel
theorem dX11_hunts_6 : decode cX11_hunts 6 = .ok (.invokevirtual 132, 3) := by decide +kernel
theorem dX11_hunts_9 : decode cX11_hunts 9 = .ok (.istore_n 3, 1) := by decide +kernel
theorem dX11_hunts_10 : decode cX11_hunts 10 = .ok (.aload_n 0, 1) := by decide +kernel
theorem dX11_hunts_11 : decode cX11_hunts 11 = .ok (.invokevirtual 322, 3) := by decide +kernel
theorem dX11_hunts_14 : decode cX11_hunts 14 = .ok (.aload_n 0, 1) := by decide +kernel
theorem dX11_hunts_15 : decode cX11_hunts 15 = .ok (.getfield 24, 3) := by decide +kernel
theorem dX11_hunts_18 : decode cX11_hunts 18 = .ok (.iconst 0, 1) := by decide +kernel
theorem dX11_hunts_19 : decode cX11_hunts 19 = .ok (.aload_n 0, 1) := by decide +kernel
theorem dX11_hunts_20 : decode cX11_hunts 20 = .ok (.getfield 24, 3) := by decide +kernel
theorem dX11_hunts_23 : decode cX11_hunts 23 = .ok (.bipush 73, 2) := by decide +kernel
theorem dX11_hunts_25 : decode cX11_hunts 25 = .ok (.iaload, 1) := by decide +kernel
theorem dX11_hunts_26 : decode cX11_hunts 26 = .ok (.aload_n 0, 1) := by decide +kernel
theorem dX11_hunts_27 : decode cX11_hunts 27 = .ok (.getfield 24, 3) := by decide +kernel
theorem dX11_hunts_30 : decode cX11_hunts 30 = .ok (.iconst 0, 1) := by decide +kernel
theorem dX11_hunts_31 : decode cX11_hunts 31 = .ok (.iaload, 1) := by decide +kernel
theorem dX11_hunts_32 : decode cX11_hunts 32 = .ok (.iload_n 3, 1) := by decide +kernel
theorem dX11_hunts_33 : decode cX11_hunts 33 = .ok (.iload_n 2, 1) := by decide +kernel
theorem dX11_hunts_34 : decode cX11_hunts 34 = .ok (.imul, 1) := by decide +kernel
theorem dX11_hunts_35 : decode cX11_hunts 35 = .ok (.iadd, 1) := by decide +kernel
theorem dX11_hunts_36 : decode cX11_hunts 36 = .ok (.invokestatic 325, 3) := by decide +kernel
theorem dX11_hunts_39 : decode cX11_hunts 39 = .ok (.iastore, 1) := by decide +kernel
theorem dX11_hunts_40 : decode cX11_hunts 40 = .ok (.aload_n 0, 1) := by decide +kernel
theorem dX11_hunts_41 : decode cX11_hunts 41 = .ok (.getfield 24, 3) := by decide +kernel
theorem dX11_hunts_44 : decode cX11_hunts 44 = .ok (.bipush 19, 2) := by decide +kernel
theorem dX11_hunts_46 : decode cX11_hunts 46 = .ok (.iload_n 1, 1) := by decide +kernel
theorem dX11_hunts_47 : decode cX11_hunts 47 = .ok (.iadd, 1) := by decide +kernel
theorem dX11_hunts_48 : decode cX11_hunts 48 = .ok (.dup2, 1) := by decide +kernel
theorem dX11_hunts_49 : decode cX11_hunts 49 = .ok (.iaload, 1) := by decide +kernel
theorem dX11_hunts_50 : decode cX11_hunts 50 = .ok (.iload_n 2, 1) := by decide +kernel
theorem dX11_hunts_51 : decode cX11_hunts 51 = .ok (.isub, 1) := by decide +kernel
theorem dX11_hunts_52 : decode cX11_hunts 52 = .ok (.iastore, 1) := by decide +kernel
theorem dX11_hunts_53 : decode cX11_hunts 53 = .ok (.iconst 0, 1) := by decide +kernel
theorem dX11_hunts_54 : decode cX11_hunts 54 = .ok (.istore 4, 2) := by decide +kernel
theorem dX11_hunts_56 : decode cX11_hunts 56 = .ok (.iload 4, 2) := by decide +kernel
theorem dX11_hunts_58 : decode cX11_hunts 58 = .ok (.aload_n 0, 1) := by decide +kernel
theorem dX11_hunts_59 : decode cX11_hunts 59 = .ok (.getfield 24, 3) := by decide +kernel
theorem dX11_hunts_62 : decode cX11_hunts 62 = .ok (.bipush 75, 2) := by decide +kernel
theorem dX11_hunts_64 : decode cX11_hunts 64 = .ok (.iaload, 1) := by decide +kernel
theorem dX11_hunts_65 : decode cX11_hunts 65 = .ok (.if_icmp .ge 41, 3) := by decide +kernel
theorem dX11_hunts_68 : decode cX11_hunts 68 = .ok (.aload_n 0, 1) := by decide +kernel
theorem dX11_hunts_69 : decode cX11_hunts 69 = .ok (.getfield 24, 3) := by decide +kernel
theorem dX11_hunts_72 : decode cX11_hunts 72 = .ok (.iconst 3, 1) := by decide +kernel
theorem dX11_hunts_73 : decode cX11_hunts 73 = .ok (.iload 4, 2) := by decide +kernel
theorem dX11_hunts_75 : decode cX11_hunts 75 = .ok (.iadd, 1) := by decide +kernel
theorem dX11_hunts_76 : decode cX11_hunts 76 = .ok (.sipush 9999, 3) := by decide +kernel
theorem dX11_hunts_79 : decode cX11_hunts 79 = .ok (.aload_n 0, 1) := by decide +kernel
theorem dX11_hunts_80 : decode cX11_hunts 80 = .ok (.getfield 24, 3) := by decide +kernel
theorem dX11_hunts_83 : decode cX11_hunts 83 = .ok (.iconst 3, 1) := by decide +kernel
theorem dX11_hunts_84 : decode cX11_hunts 84 = .ok (.iload 4, 2) := by decide +kernel
theorem dX11_hunts_86 : decode cX11_hunts 86 = .ok (.iadd, 1) := by decide +kernel
theorem dX11_hunts_87 : decode cX11_hunts 87 = .ok (.iaload, 1) := by decide +kernel
theorem dX11_hunts_88 : decode cX11_hunts 88 = .ok (.aload_n 0, 1) := by decide +kernel
theorem dX11_hunts_89 : decode cX11_hunts 89 = .ok (.getfield 62, 3) := by decide +kernel
theorem dX11_hunts_92 : decode cX11_hunts 92 = .ok (.iload 4, 2) := by decide +kernel
theorem dX11_hunts_94 : decode cX11_hunts 94 = .ok (.iaload, 1) := by decide +kernel
theorem dX11_hunts_95 : decode cX11_hunts 95 = .ok (.iadd, 1) := by decide +kernel
theorem dX11_hunts_96 : decode cX11_hunts 96 = .ok (.invokestatic 325, 3) := by decide +kernel
theorem dX11_hunts_99 : decode cX11_hunts 99 = .ok (.iastore, 1) := by decide +kernel
theorem dX11_hunts_100 : decode cX11_hunts 100 = .ok (.iinc 4 1, 3) := by decide +kernel
theorem dX11_hunts_103 : decode cX11_hunts 103 = .ok (.goto (-47), 3) := by decide +kernel
theorem dX11_hunts_106 : decode cX11_hunts 106 = .ok (.aload_n 0, 1) := by decide +kernel
theorem dX11_hunts_107 : decode cX11_hunts 107 = .ok (.getfield 24, 3) := by decide +kernel
theorem dX11_hunts_110 : decode cX11_hunts 110 = .ok (.iconst 2, 1) := by decide +kernel
theorem dX11_hunts_111 : decode cX11_hunts 111 = .ok (.dup2, 1) := by decide +kernel
theorem dX11_hunts_112 : decode cX11_hunts 112 = .ok (.iaload, 1) := by decide +kernel
theorem dX11_hunts_113 : decode cX11_hunts 113 = .ok (.iconst 1, 1) := by decide +kernel
theorem dX11_hunts_114 : decode cX11_hunts 114 = .ok (.iadd, 1) := by decide +kernel
theorem dX11_hunts_115 : decode cX11_hunts 115 = .ok (.iastore, 1) := by decide +kernel
theorem dX11_hunts_116 : decode cX11_hunts 116 = .ok (.aload_n 0, 1) := by decide +kernel
theorem dX11_hunts_117 : decode cX11_hunts 117 = .ok (.aload_n 0, 1) := by decide +kernel
theorem dX11_hunts_118 : decode cX11_hunts 118 = .ok (.invokevirtual 328, 3) := by decide +kernel
theorem dX11_hunts_121 : decode cX11_hunts 121 = .ok (.invokevirtual 331, 3) := by decide +kernel
theorem dX11_hunts_124 : decode cX11_hunts 124 = .ok (.ireturn, 1) := by decide +kernel
theorem dX11_keeps_0 : decode cX11_keeps 0 = .ok (.bipush 24, 2) := by decide +kernel
theorem dX11_keeps_2 : decode cX11_keeps 2 = .ok (.istore_n 2, 1) := by decide +kernel
theorem dX11_keeps_3 : decode cX11_keeps 3 = .ok (.aload_n 0, 1) := by decide +kernel
theorem dX11_keeps_4 : decode cX11_keeps 4 = .ok (.getfield 11, 3) := by decide +kernel
theorem dX11_keeps_7 : decode cX11_keeps 7 = .ok (.bipush 16, 2) := by decide +kernel
theorem dX11_keeps_9 : decode cX11_keeps 9 = .ok (.if_icmp .ne 43, 3) := by decide +kernel
theorem dX11_keeps_12 : decode cX11_keeps 12 = .ok (.iconst 0, 1) := by decide +kernel
theorem dX11_keeps_13 : decode cX11_keeps 13 = .ok (.istore_n 3, 1) := by decide +kernel
theorem dX11_keeps_14 : decode cX11_keeps 14 = .ok (.iload_n 3, 1) := by decide +kernel
theorem dX11_keeps_15 : decode cX11_keeps 15 = .ok (.bipush 15, 2) := by decide +kernel
theorem dX11_keeps_17 : decode cX11_keeps 17 = .ok (.iload_n 2, 1) := by decide +kernel
theorem dX11_keeps_18 : decode cX11_keeps 18 = .ok (.imul, 1) := by decide +kernel
theorem dX11_keeps_19 : decode cX11_keeps 19 = .ok (.if_icmp .ge 23, 3) := by decide +kernel
theorem dX11_keeps_22 : decode cX11_keeps 22 = .ok (.aload_n 0, 1) := by decide +kernel
theorem dX11_keeps_23 : decode cX11_keeps 23 = .ok (.getfield 65, 3) := by decide +kernel
theorem dX11_keeps_26 : decode cX11_keeps 26 = .ok (.iload_n 3, 1) := by decide +kernel
theorem dX11_keeps_27 : decode cX11_keeps 27 = .ok (.aload_n 0, 1) := by decide +kernel
theorem dX11_keeps_28 : decode cX11_keeps 28 = .ok (.getfield 65, 3) := by decide +kernel
theorem dX11_keeps_31 : decode cX11_keeps 31 = .ok (.iload_n 3, 1) := by decide +kernel
theorem dX11_keeps_32 : decode cX11_keeps 32 = .ok (.iload_n 2, 1) := by decide +kernel
theorem dX11_keeps_33 : decode cX11_keeps 33 = .ok (.iadd, 1) := by decide +kernel
theorem dX11_keeps_34 : decode cX11_keeps 34 = .ok (.iaload, 1) := by decide +kernel
theorem dX11_keeps_35 : decode cX11_keeps 35 = .ok (.iastore, 1) := by decide +kernel
theorem dX11_keeps_36 : decode cX11_keeps 36 = .ok (.iinc 3 1, 3) := by decide +kernel
theorem dX11_keeps_39 : decode cX11_keeps 39 = .ok (.goto (-25), 3) := by decide +kernel
theorem dX11_keeps_42 : decode cX11_keeps 42 = .ok (.aload_n 0, 1) := by decide +kernel
theorem dX11_keeps_43 : decode cX11_keeps 43 = .ok (.dup, 1) := by decide +kernel
theorem dX11_keeps_44 : decode cX11_keeps 44 = .ok (.getfield 11, 3) := by decide +kernel
theorem dX11_keeps_47 : decode cX11_keeps 47 = .ok (.iconst 1, 1) := by decide +kernel
theorem dX11_keeps_48 : decode cX11_keeps 48 = .ok (.isub, 1) := by decide +kernel
theorem dX11_keeps_49 : decode cX11_keeps 49 = .ok (.putfield 11, 3) := by decide +kernel
theorem dX11_keeps_52 : decode cX11_keeps 52 = .ok (.iconst 0, 1) := by decide +kernel
theorem dX11_keeps_53 : decode cX11_keeps 53 = .ok (.istore_n 3, 1) := by decide +kernel
theorem dX11_keeps_54 : decode cX11_keeps 54 = .ok (.iload_n 3, 1) := by decide +kernel
theorem dX11_keeps_55 : decode cX11_keeps 55 = .ok (.bipush 23, 2) := by decide +kernel
theorem dX11_keeps_57 : decode cX11_keeps 57 = .ok (.if_icmp .ge 28, 3) := by decide +kernel
theorem dX11_keeps_60 : decode cX11_keeps 60 = .ok (.aload_n 0, 1) := by decide +kernel
theorem dX11_keeps_61 : decode cX11_keeps 61 = .ok (.getfield 65, 3) := by decide +kernel
theorem dX11_keeps_64 : decode cX11_keeps 64 = .ok (.iload_n 2, 1) := by decide +kernel
theorem dX11_keeps_65 : decode cX11_keeps 65 = .ok (.aload_n 0, 1) := by decide +kernel
theorem dX11_keeps_66 : decode cX11_keeps 66 = .ok (.getfield 11, 3) := by decide +kernel
theorem dX11_keeps_69 : decode cX11_keeps 69 = .ok (.imul, 1) := by decide +kernel
theorem dX11_keeps_70 : decode cX11_keeps 70 = .ok (.iload_n 3, 1) := by decide +kernel
theorem dX11_keeps_71 : decode cX11_keeps 71 = .ok (.iadd, 1) := by decide +kernel
theorem dX11_keeps_72 : decode cX11_keeps 72 = .ok (.aload_n 0, 1) := by decide +kernel
theorem dX11_keeps_73 : decode cX11_keeps 73 = .ok (.getfield 24, 3) := by decide +kernel
theorem dX11_keeps_76 : decode cX11_keeps 76 = .ok (.iload_n 3, 1) := by decide +kernel
theorem dX11_keeps_77 : decode cX11_keeps 77 = .ok (.iaload, 1) := by decide +kernel
theorem dX11_keeps_78 : decode cX11_keeps 78 = .ok (.iastore, 1) := by decide +kernel
theorem dX11_keeps_79 : decode cX11_keeps 79 = .ok (.iinc 3 1, 3) := by decide +kernel
theorem dX11_keeps_82 : decode cX11_keeps 82 = .ok (.goto (-28), 3) := by decide +kernel
theorem dX11_keeps_85 : decode cX11_keeps 85 = .ok (.aload_n 0, 1) := by decide +kernel
theorem dX11_keeps_86 : decode cX11_keeps 86 = .ok (.getfield 65, 3) := by decide +kernel
theorem dX11_keeps_89 : decode cX11_keeps 89 = .ok (.iload_n 2, 1) := by decide +kernel
theorem dX11_keeps_90 : decode cX11_keeps 90 = .ok (.aload_n 0, 1) := by decide +kernel
theorem dX11_keeps_91 : decode cX11_keeps 91 = .ok (.getfield 11, 3) := by decide +kernel
theorem dX11_keeps_94 : decode cX11_keeps 94 = .ok (.imul, 1) := by decide +kernel
theorem dX11_keeps_95 : decode cX11_keeps 95 = .ok (.bipush 23, 2) := by decide +kernel
theorem dX11_keeps_97 : decode cX11_keeps 97 = .ok (.iadd, 1) := by decide +kernel
theorem dX11_keeps_98 : decode cX11_keeps 98 = .ok (.iload_n 1, 1) := by decide +kernel
theorem dX11_keeps_99 : decode cX11_keeps 99 = .ok (.iastore, 1) := by decide +kernel
theorem dX11_keeps_100 : decode cX11_keeps 100 = .ok (.aload_n 0, 1) := by decide +kernel
theorem dX11_keeps_101 : decode cX11_keeps 101 = .ok (.dup, 1) := by decide +kernel
theorem dX11_keeps_102 : decode cX11_keeps 102 = .ok (.getfield 11, 3) := by decide +kernel
theorem dX11_keeps_105 : decode cX11_keeps 105 = .ok (.iconst 1, 1) := by decide +kernel
theorem dX11_keeps_106 : decode cX11_keeps 106 = .ok (.iadd, 1) := by decide +kernel
theorem dX11_keeps_107 : decode cX11_keeps 107 = .ok (.putfield 11, 3) := by decide +kernel
theorem dX11_keeps_110 : decode cX11_keeps 110 = .ok (.return_, 1) := by decide +kernel
theorem dX11_undo_0 : decode cX11_undo 0 = .ok (.aload_n 0, 1) := by decide +kernel
theorem dX11_undo_1 : decode cX11_undo 1 = .ok (.getfield 11, 3) := by decide +kernel
theorem dX11_undo_4 : decode cX11_undo 4 = .ok (.ifCond .ne 10, 3) := by decide +kernel
theorem dX11_undo_7 : decode cX11_undo 7 = .ok (.aload_n 0, 1) := by decide +kernel
theorem dX11_undo_8 : decode cX11_undo 8 = .ok (.bipush (-3), 2) := by decide +kernel
theorem dX11_undo_10 : decode cX11_undo 10 = .ok (.invokevirtual 94, 3) := by decide +kernel
theorem dX11_undo_13 : decode cX11_undo 13 = .ok (.ireturn, 1) := by decide +kernel
theorem dX11_undo_14 : decode cX11_undo 14 = .ok (.aload_n 0, 1) := by decide +kernel
theorem dX11_undo_15 : decode cX11_undo 15 = .ok (.dup, 1) := by decide +kernel
theorem dX11_undo_16 : decode cX11_undo 16 = .ok (.getfield 11, 3) := by decide +kernel
theorem dX11_undo_19 : decode cX11_undo 19 = .ok (.iconst 1, 1) := by decide +kernel
theorem dX11_undo_20 : decode cX11_undo 20 = .ok (.isub, 1) := by decide +kernel
theorem dX11_undo_21 : decode cX11_undo 21 = .ok (.putfield 11, 3) := by decide +kernel
theorem dX11_undo_24 : decode cX11_undo 24 = .ok (.bipush 24, 2) := by decide +kernel
theorem dX11_undo_26 : decode cX11_undo 26 = .ok (.aload_n 0, 1) := by decide +kernel
theorem dX11_undo_27 : decode cX11_undo 27 = .ok (.getfield 11, 3) := by decide +kernel
theorem dX11_undo_30 : decode cX11_undo 30 = .ok (.imul, 1) := by decide +kernel
theorem dX11_undo_31 : decode cX11_undo 31 = .ok (.istore_n 1, 1) := by decide +kernel
theorem dX11_undo_32 : decode cX11_undo 32 = .ok (.iconst 0, 1) := by decide +kernel
theorem dX11_undo_33 : decode cX11_undo 33 = .ok (.istore_n 2, 1) := by decide +kernel
theorem dX11_undo_34 : decode cX11_undo 34 = .ok (.iload_n 2, 1) := by decide +kernel
theorem dX11_undo_35 : decode cX11_undo 35 = .ok (.bipush 23, 2) := by decide +kernel
theorem dX11_undo_37 : decode cX11_undo 37 = .ok (.if_icmp .ge 23, 3) := by decide +kernel
theorem dX11_undo_40 : decode cX11_undo 40 = .ok (.aload_n 0, 1) := by decide +kernel
theorem dX11_undo_41 : decode cX11_undo 41 = .ok (.getfield 24, 3) := by decide +kernel
theorem dX11_undo_44 : decode cX11_undo 44 = .ok (.iload_n 2, 1) := by decide +kernel
theorem dX11_undo_45 : decode cX11_undo 45 = .ok (.aload_n 0, 1) := by decide +kernel
theorem dX11_undo_46 : decode cX11_undo 46 = .ok (.getfield 65, 3) := by decide +kernel
theorem dX11_undo_49 : decode cX11_undo 49 = .ok (.iload_n 1, 1) := by decide +kernel
theorem dX11_undo_50 : decode cX11_undo 50 = .ok (.iload_n 2, 1) := by decide +kernel
theorem dX11_undo_51 : decode cX11_undo 51 = .ok (.iadd, 1) := by decide +kernel
theorem dX11_undo_52 : decode cX11_undo 52 = .ok (.iaload, 1) := by decide +kernel
theorem dX11_undo_53 : decode cX11_undo 53 = .ok (.iastore, 1) := by decide +kernel
theorem dX11_undo_54 : decode cX11_undo 54 = .ok (.iinc 2 1, 3) := by decide +kernel
theorem dX11_undo_57 : decode cX11_undo 57 = .ok (.goto (-23), 3) := by decide +kernel
theorem dX11_undo_60 : decode cX11_undo 60 = .ok (.aload_n 0, 1) := by decide +kernel
theorem dX11_undo_61 : decode cX11_undo 61 = .ok (.aload_n 0, 1) := by decide +kernel
theorem dX11_undo_62 : decode cX11_undo 62 = .ok (.getfield 65, 3) := by decide +kernel
theorem dX11_undo_65 : decode cX11_undo 65 = .ok (.iload_n 1, 1) := by decide +kernel
theorem dX11_undo_66 : decode cX11_undo 66 = .ok (.bipush 23, 2) := by decide +kernel
theorem dX11_undo_68 : decode cX11_undo 68 = .ok (.iadd, 1) := by decide +kernel
theorem dX11_undo_69 : decode cX11_undo 69 = .ok (.iaload, 1) := by decide +kernel
theorem dX11_undo_70 : decode cX11_undo 70 = .ok (.invokevirtual 14, 3) := by decide +kernel
theorem dX11_undo_73 : decode cX11_undo 73 = .ok (.ireturn, 1) := by decide +kernel
theorem dX11_goodOr_0 : decode cX11_goodOr 0 = .ok (.iload_n 1, 1) := by decide +kernel
theorem dX11_goodOr_1 : decode cX11_goodOr 1 = .ok (.ifCond .ge 11, 3) := by decide +kernel
theorem dX11_goodOr_4 : decode cX11_goodOr 4 = .ok (.aload_n 0, 1) := by decide +kernel
theorem dX11_goodOr_5 : decode cX11_goodOr 5 = .ok (.iload_n 1, 1) := by decide +kernel
theorem dX11_goodOr_6 : decode cX11_goodOr 6 = .ok (.invokevirtual 94, 3) := by decide +kernel
theorem dX11_goodOr_9 : decode cX11_goodOr 9 = .ok (.goto 8, 3) := by decide +kernel
theorem dX11_goodOr_12 : decode cX11_goodOr 12 = .ok (.aload_n 0, 1) := by decide +kernel
theorem dX11_goodOr_13 : decode cX11_goodOr 13 = .ok (.iload_n 1, 1) := by decide +kernel
theorem dX11_goodOr_14 : decode cX11_goodOr 14 = .ok (.invokevirtual 14, 3) := by decide +kernel
theorem dX11_goodOr_17 : decode cX11_goodOr 17 = .ok (.ireturn, 1) := by decide +kernel
theorem dX11_canSail_0 : decode cX11_canSail 0 = .ok (.aload_n 0, 1) := by decide +kernel
theorem dX11_canSail_1 : decode cX11_canSail 1 = .ok (.invokevirtual 108, 3) := by decide +kernel
theorem dX11_canSail_4 : decode cX11_canSail 4 = .ok (.ifCond .le 18, 3) := by decide +kernel
theorem dX11_canSail_7 : decode cX11_canSail 7 = .ok (.aload_n 0, 1) := by decide +kernel
theorem dX11_canSail_8 : decode cX11_canSail 8 = .ok (.getfield 24, 3) := by decide +kernel
theorem dX11_canSail_11 : decode cX11_canSail 11 = .ok (.iconst 2, 1) := by decide +kernel
theorem dX11_canSail_12 : decode cX11_canSail 12 = .ok (.iaload, 1) := by decide +kernel
theorem dX11_canSail_13 : decode cX11_canSail 13 = .ok (.bipush 71, 2) := by decide +kernel
theorem dX11_canSail_15 : decode cX11_canSail 15 = .ok (.if_icmp .ge 7, 3) := by decide +kernel
theorem dX11_canSail_18 : decode cX11_canSail 18 = .ok (.iconst 1, 1) := by decide +kernel
theorem dX11_canSail_19 : decode cX11_canSail 19 = .ok (.goto 4, 3) := by decide +kernel
theorem dX11_canSail_22 : decode cX11_canSail 22 = .ok (.iconst 0, 1) := by decide +kernel
theorem dX11_canSail_23 : decode cX11_canSail 23 = .ok (.ireturn, 1) := by decide +kernel
theorem dX11_huntsKept_0 : decode cX11_huntsKept 0 = .ok (.iload_n 2, 1) := by decide +kernel
theorem dX11_huntsKept_1 : decode cX11_huntsKept 1 = .ok (.iconst 0, 1) := by decide +kernel
theorem dX11_huntsKept_2 : decode cX11_huntsKept 2 = .ok (.iconst 3, 1) := by decide +kernel
theorem dX11_huntsKept_3 : decode cX11_huntsKept 3 = .ok (.invokestatic 90, 3) := by decide +kernel
theorem dX11_huntsKept_6 : decode cX11_huntsKept 6 = .ok (.ifCond .ne 5, 3) := by decide +kernel
theorem dX11_huntsKept_9 : decode cX11_huntsKept 9 = .ok (.iconst (-1), 1) := by decide +kernel
theorem dX11_huntsKept_10 : decode cX11_huntsKept 10 = .ok (.ireturn, 1) := by decide +kernel
theorem dX11_huntsKept_11 : decode cX11_huntsKept 11 = .ok (.aload_n 0, 1) := by decide +kernel
theorem dX11_huntsKept_12 : decode cX11_huntsKept 12 = .ok (.iload_n 1, 1) := by decide +kernel
theorem dX11_huntsKept_13 : decode cX11_huntsKept 13 = .ok (.invokevirtual 129, 3) := by decide +kernel
theorem dX11_huntsKept_16 : decode cX11_huntsKept 16 = .ok (.ifCond .ne 6, 3) := by decide +kernel
theorem dX11_huntsKept_19 : decode cX11_huntsKept 19 = .ok (.bipush (-2), 2) := by decide +kernel
theorem dX11_huntsKept_21 : decode cX11_huntsKept 21 = .ok (.ireturn, 1) := by decide +kernel
theorem dX11_huntsKept_22 : decode cX11_huntsKept 22 = .ok (.aload_n 0, 1) := by decide +kernel
theorem dX11_huntsKept_23 : decode cX11_huntsKept 23 = .ok (.invokevirtual 334, 3) := by decide +kernel
theorem dX11_huntsKept_26 : decode cX11_huntsKept 26 = .ok (.ifCond .eq 16, 3) := by decide +kernel
theorem dX11_huntsKept_29 : decode cX11_huntsKept 29 = .ok (.iload_n 2, 1) := by decide +kernel
theorem dX11_huntsKept_30 : decode cX11_huntsKept 30 = .ok (.aload_n 0, 1) := by decide +kernel
theorem dX11_huntsKept_31 : decode cX11_huntsKept 31 = .ok (.getfield 24, 3) := by decide +kernel
theorem dX11_huntsKept_34 : decode cX11_huntsKept 34 = .ok (.bipush 19, 2) := by decide +kernel
theorem dX11_huntsKept_36 : decode cX11_huntsKept 36 = .ok (.iload_n 1, 1) := by decide +kernel
theorem dX11_huntsKept_37 : decode cX11_huntsKept 37 = .ok (.iadd, 1) := by decide +kernel
theorem dX11_huntsKept_38 : decode cX11_huntsKept 38 = .ok (.iaload, 1) := by decide +kernel
theorem dX11_huntsKept_39 : decode cX11_huntsKept 39 = .ok (.if_icmp .le 6, 3) := by decide +kernel
theorem dX11_huntsKept_42 : decode cX11_huntsKept 42 = .ok (.bipush (-3), 2) := by decide +kernel
theorem dX11_huntsKept_44 : decode cX11_huntsKept 44 = .ok (.ireturn, 1) := by decide +kernel
theorem dX11_huntsKept_45 : decode cX11_huntsKept 45 = .ok (.aload_n 0, 1) := by decide +kernel
theorem dX11_huntsKept_46 : decode cX11_huntsKept 46 = .ok (.iconst 0, 1) := by decide +kernel
theorem dX11_huntsKept_47 : decode cX11_huntsKept 47 = .ok (.invokevirtual 337, 3) := by decide +kernel
theorem dX11_huntsKept_50 : decode cX11_huntsKept 50 = .ok (.aload_n 0, 1) := by decide +kernel
theorem dX11_huntsKept_51 : decode cX11_huntsKept 51 = .ok (.iload_n 1, 1) := by decide +kernel
theorem dX11_huntsKept_52 : decode cX11_huntsKept 52 = .ok (.iload_n 2, 1) := by decide +kernel
theorem dX11_huntsKept_53 : decode cX11_huntsKept 53 = .ok (.invokevirtual 340, 3) := by decide +kernel
theorem dX11_huntsKept_56 : decode cX11_huntsKept 56 = .ok (.ireturn, 1) := by decide +kernel
theorem dX11_sellsKept_0 : decode cX11_sellsKept 0 = .ok (.iload_n 1, 1) := by decide +kernel
theorem dX11_sellsKept_1 : decode cX11_sellsKept 1 = .ok (.iconst 1, 1) := by decide +kernel
theorem dX11_sellsKept_2 : decode cX11_sellsKept 2 = .ok (.sipush 999, 3) := by decide +kernel
theorem dX11_sellsKept_5 : decode cX11_sellsKept 5 = .ok (.invokestatic 90, 3) := by decide +kernel
theorem dX11_sellsKept_8 : decode cX11_sellsKept 8 = .ok (.ifCond .ne 5, 3) := by decide +kernel
theorem dX11_sellsKept_11 : decode cX11_sellsKept 11 = .ok (.iconst (-1), 1) := by decide +kernel
theorem dX11_sellsKept_12 : decode cX11_sellsKept 12 = .ok (.ireturn, 1) := by decide +kernel
theorem dX11_sellsKept_13 : decode cX11_sellsKept 13 = .ok (.aload_n 0, 1) := by decide +kernel
theorem dX11_sellsKept_14 : decode cX11_sellsKept 14 = .ok (.getfield 24, 3) := by decide +kernel
theorem dX11_sellsKept_17 : decode cX11_sellsKept 17 = .ok (.iconst 0, 1) := by decide +kernel
theorem dX11_sellsKept_18 : decode cX11_sellsKept 18 = .ok (.iaload, 1) := by decide +kernel
theorem dX11_sellsKept_19 : decode cX11_sellsKept 19 = .ok (.iload_n 1, 1) := by decide +kernel
theorem dX11_sellsKept_20 : decode cX11_sellsKept 20 = .ok (.if_icmp .ge 6, 3) := by decide +kernel
theorem dX11_sellsKept_23 : decode cX11_sellsKept 23 = .ok (.bipush (-3), 2) := by decide +kernel
theorem dX11_sellsKept_25 : decode cX11_sellsKept 25 = .ok (.ireturn, 1) := by decide +kernel
theorem dX11_sellsKept_26 : decode cX11_sellsKept 26 = .ok (.aload_n 0, 1) := by decide +kernel
theorem dX11_sellsKept_27 : decode cX11_sellsKept 27 = .ok (.iconst 1, 1) := by decide +kernel
theorem dX11_sellsKept_28 : decode cX11_sellsKept 28 = .ok (.invokevirtual 337, 3) := by decide +kernel
theorem dX11_sellsKept_31 : decode cX11_sellsKept 31 = .ok (.aload_n 0, 1) := by decide +kernel
theorem dX11_sellsKept_32 : decode cX11_sellsKept 32 = .ok (.getfield 24, 3) := by decide +kernel
theorem dX11_sellsKept_35 : decode cX11_sellsKept 35 = .ok (.iconst 0, 1) := by decide +kernel
theorem dX11_sellsKept_36 : decode cX11_sellsKept 36 = .ok (.dup2, 1) := by decide +kernel
theorem dX11_sellsKept_37 : decode cX11_sellsKept 37 = .ok (.iaload, 1) := by decide +kernel
theorem dX11_sellsKept_38 : decode cX11_sellsKept 38 = .ok (.iload_n 1, 1) := by decide +kernel
theorem dX11_sellsKept_39 : decode cX11_sellsKept 39 = .ok (.isub, 1) := by decide +kernel
theorem dX11_sellsKept_40 : decode cX11_sellsKept 40 = .ok (.iastore, 1) := by decide +kernel
theorem dX11_sellsKept_41 : decode cX11_sellsKept 41 = .ok (.aload_n 0, 1) := by decide +kernel
theorem dX11_sellsKept_42 : decode cX11_sellsKept 42 = .ok (.getfield 24, 3) := by decide +kernel
theorem dX11_sellsKept_45 : decode cX11_sellsKept 45 = .ok (.iconst 1, 1) := by decide +kernel
theorem dX11_sellsKept_46 : decode cX11_sellsKept 46 = .ok (.ldc_w 343, 3) := by decide +kernel
theorem dX11_sellsKept_49 : decode cX11_sellsKept 49 = .ok (.aload_n 0, 1) := by decide +kernel
theorem dX11_sellsKept_50 : decode cX11_sellsKept 50 = .ok (.getfield 24, 3) := by decide +kernel
theorem dX11_sellsKept_53 : decode cX11_sellsKept 53 = .ok (.iconst 1, 1) := by decide +kernel
theorem dX11_sellsKept_54 : decode cX11_sellsKept 54 = .ok (.iaload, 1) := by decide +kernel
theorem dX11_sellsKept_55 : decode cX11_sellsKept 55 = .ok (.iload_n 1, 1) := by decide +kernel
theorem dX11_sellsKept_56 : decode cX11_sellsKept 56 = .ok (.aload_n 0, 1) := by decide +kernel
theorem dX11_sellsKept_57 : decode cX11_sellsKept 57 = .ok (.aload_n 0, 1) := by decide +kernel
theorem dX11_sellsKept_58 : decode cX11_sellsKept 58 = .ok (.getfield 24, 3) := by decide +kernel
theorem dX11_sellsKept_61 : decode cX11_sellsKept 61 = .ok (.iconst 2, 1) := by decide +kernel
theorem dX11_sellsKept_62 : decode cX11_sellsKept 62 = .ok (.iaload, 1) := by decide +kernel
theorem dX11_sellsKept_63 : decode cX11_sellsKept 63 = .ok (.invokevirtual 344, 3) := by decide +kernel
theorem dX11_sellsKept_66 : decode cX11_sellsKept 66 = .ok (.imul, 1) := by decide +kernel
theorem dX11_sellsKept_67 : decode cX11_sellsKept 67 = .ok (.iadd, 1) := by decide +kernel
theorem dX11_sellsKept_68 : decode cX11_sellsKept 68 = .ok (.invokestatic 325, 3) := by decide +kernel
theorem dX11_sellsKept_71 : decode cX11_sellsKept 71 = .ok (.iastore, 1) := by decide +kernel
theorem dX11_sellsKept_72 : decode cX11_sellsKept 72 = .ok (.aload_n 0, 1) := by decide +kernel
theorem dX11_sellsKept_73 : decode cX11_sellsKept 73 = .ok (.getfield 24, 3) := by decide +kernel
theorem dX11_sellsKept_76 : decode cX11_sellsKept 76 = .ok (.iconst 1, 1) := by decide +kernel
theorem dX11_sellsKept_77 : decode cX11_sellsKept 77 = .ok (.iaload, 1) := by decide +kernel
theorem dX11_sellsKept_78 : decode cX11_sellsKept 78 = .ok (.ireturn, 1) := by decide +kernel
theorem dX11_advancesKept_0 : decode cX11_advancesKept 0 = .ok (.iload_n 2, 1) := by decide +kernel
theorem dX11_advancesKept_1 : decode cX11_advancesKept 1 = .ok (.iconst 1, 1) := by decide +kernel
theorem dX11_advancesKept_2 : decode cX11_advancesKept 2 = .ok (.sipush 9999, 3) := by decide +kernel
theorem dX11_advancesKept_5 : decode cX11_advancesKept 5 = .ok (.invokestatic 90, 3) := by decide +kernel
theorem dX11_advancesKept_8 : decode cX11_advancesKept 8 = .ok (.ifCond .ne 5, 3) := by decide +kernel
theorem dX11_advancesKept_11 : decode cX11_advancesKept 11 = .ok (.iconst (-1), 1) := by decide +kernel
theorem dX11_advancesKept_12 : decode cX11_advancesKept 12 = .ok (.ireturn, 1) := by decide +kernel
theorem dX11_advancesKept_13 : decode cX11_advancesKept 13 = .ok (.aload_n 0, 1) := by decide +kernel
theorem dX11_advancesKept_14 : decode cX11_advancesKept 14 = .ok (.iload_n 1, 1) := by decide +kernel
theorem dX11_advancesKept_15 : decode cX11_advancesKept 15 = .ok (.invokevirtual 100, 3) := by decide +kernel
theorem dX11_advancesKept_18 : decode cX11_advancesKept 18 = .ok (.ifCond .ne 6, 3) := by decide +kernel
theorem dX11_advancesKept_21 : decode cX11_advancesKept 21 = .ok (.bipush (-2), 2) := by decide +kernel
theorem dX11_advancesKept_23 : decode cX11_advancesKept 23 = .ok (.ireturn, 1) := by decide +kernel
theorem dX11_advancesKept_24 : decode cX11_advancesKept 24 = .ok (.aload_n 0, 1) := by decide +kernel
theorem dX11_advancesKept_25 : decode cX11_advancesKept 25 = .ok (.iload_n 1, 1) := by decide +kernel
theorem dX11_advancesKept_26 : decode cX11_advancesKept 26 = .ok (.invokevirtual 118, 3) := by decide +kernel
theorem dX11_advancesKept_29 : decode cX11_advancesKept 29 = .ok (.ifCond .eq 13, 3) := by decide +kernel
theorem dX11_advancesKept_32 : decode cX11_advancesKept 32 = .ok (.aload_n 0, 1) := by decide +kernel
theorem dX11_advancesKept_33 : decode cX11_advancesKept 33 = .ok (.getfield 24, 3) := by decide +kernel
theorem dX11_advancesKept_36 : decode cX11_advancesKept 36 = .ok (.iconst 1, 1) := by decide +kernel
theorem dX11_advancesKept_37 : decode cX11_advancesKept 37 = .ok (.iaload, 1) := by decide +kernel
theorem dX11_advancesKept_38 : decode cX11_advancesKept 38 = .ok (.iload_n 2, 1) := by decide +kernel
theorem dX11_advancesKept_39 : decode cX11_advancesKept 39 = .ok (.if_icmp .ge 6, 3) := by decide +kernel
theorem dX11_advancesKept_42 : decode cX11_advancesKept 42 = .ok (.bipush (-3), 2) := by decide +kernel
theorem dX11_advancesKept_44 : decode cX11_advancesKept 44 = .ok (.ireturn, 1) := by decide +kernel
theorem dX11_advancesKept_45 : decode cX11_advancesKept 45 = .ok (.aload_n 0, 1) := by decide +kernel
theorem dX11_advancesKept_46 : decode cX11_advancesKept 46 = .ok (.iconst 2, 1) := by decide +kernel
theorem dX11_advancesKept_47 : decode cX11_advancesKept 47 = .ok (.invokevirtual 337, 3) := by decide +kernel
theorem dX11_advancesKept_50 : decode cX11_advancesKept 50 = .ok (.aload_n 0, 1) := by decide +kernel
theorem dX11_advancesKept_51 : decode cX11_advancesKept 51 = .ok (.getfield 24, 3) := by decide +kernel
theorem dX11_advancesKept_54 : decode cX11_advancesKept 54 = .ok (.iconst 1, 1) := by decide +kernel
theorem dX11_advancesKept_55 : decode cX11_advancesKept 55 = .ok (.dup2, 1) := by decide +kernel
theorem dX11_advancesKept_56 : decode cX11_advancesKept 56 = .ok (.iaload, 1) := by decide +kernel
theorem dX11_advancesKept_57 : decode cX11_advancesKept 57 = .ok (.iload_n 2, 1) := by decide +kernel
theorem dX11_advancesKept_58 : decode cX11_advancesKept 58 = .ok (.isub, 1) := by decide +kernel
theorem dX11_advancesKept_59 : decode cX11_advancesKept 59 = .ok (.iastore, 1) := by decide +kernel
theorem dX11_advancesKept_60 : decode cX11_advancesKept 60 = .ok (.aload_n 0, 1) := by decide +kernel
theorem dX11_advancesKept_61 : decode cX11_advancesKept 61 = .ok (.getfield 24, 3) := by decide +kernel
theorem dX11_advancesKept_64 : decode cX11_advancesKept 64 = .ok (.iconst 3, 1) := by decide +kernel
theorem dX11_advancesKept_65 : decode cX11_advancesKept 65 = .ok (.iload_n 1, 1) := by decide +kernel
theorem dX11_advancesKept_66 : decode cX11_advancesKept 66 = .ok (.iadd, 1) := by decide +kernel
theorem dX11_advancesKept_67 : decode cX11_advancesKept 67 = .ok (.sipush 9999, 3) := by decide +kernel
theorem dX11_advancesKept_70 : decode cX11_advancesKept 70 = .ok (.aload_n 0, 1) := by decide +kernel
theorem dX11_advancesKept_71 : decode cX11_advancesKept 71 = .ok (.getfield 24, 3) := by decide +kernel
theorem dX11_advancesKept_74 : decode cX11_advancesKept 74 = .ok (.iconst 3, 1) := by decide +kernel
theorem dX11_advancesKept_75 : decode cX11_advancesKept 75 = .ok (.iload_n 1, 1) := by decide +kernel
theorem dX11_advancesKept_76 : decode cX11_advancesKept 76 = .ok (.iadd, 1) := by decide +kernel
theorem dX11_advancesKept_77 : decode cX11_advancesKept 77 = .ok (.iaload, 1) := by decide +kernel
theorem dX11_advancesKept_78 : decode cX11_advancesKept 78 = .ok (.iload_n 2, 1) := by decide +kernel
theorem dX11_advancesKept_79 : decode cX11_advancesKept 79 = .ok (.iadd, 1) := by decide +kernel
theorem dX11_advancesKept_80 : decode cX11_advancesKept 80 = .ok (.invokestatic 325, 3) := by decide +kernel
theorem dX11_advancesKept_83 : decode cX11_advancesKept 83 = .ok (.iastore, 1) := by decide +kernel
theorem dX11_advancesKept_84 : decode cX11_advancesKept 84 = .ok (.aload_n 0, 1) := by decide +kernel
theorem dX11_advancesKept_85 : decode cX11_advancesKept 85 = .ok (.getfield 24, 3) := by decide +kernel
theorem dX11_advancesKept_88 : decode cX11_advancesKept 88 = .ok (.iconst 3, 1) := by decide +kernel
theorem dX11_advancesKept_89 : decode cX11_advancesKept 89 = .ok (.iload_n 1, 1) := by decide +kernel
theorem dX11_advancesKept_90 : decode cX11_advancesKept 90 = .ok (.iadd, 1) := by decide +kernel
theorem dX11_advancesKept_91 : decode cX11_advancesKept 91 = .ok (.iaload, 1) := by decide +kernel
theorem dX11_advancesKept_92 : decode cX11_advancesKept 92 = .ok (.ireturn, 1) := by decide +kernel
theorem dX11_leavesKept_0 : decode cX11_leavesKept 0 = .ok (.aload_n 0, 1) := by decide +kernel
theorem dX11_leavesKept_1 : decode cX11_leavesKept 1 = .ok (.iload_n 1, 1) := by decide +kernel
theorem dX11_leavesKept_2 : decode cX11_leavesKept 2 = .ok (.invokevirtual 100, 3) := by decide +kernel
theorem dX11_leavesKept_5 : decode cX11_leavesKept 5 = .ok (.ifCond .ne 6, 3) := by decide +kernel
theorem dX11_leavesKept_8 : decode cX11_leavesKept 8 = .ok (.bipush (-2), 2) := by decide +kernel
theorem dX11_leavesKept_10 : decode cX11_leavesKept 10 = .ok (.ireturn, 1) := by decide +kernel
theorem dX11_leavesKept_11 : decode cX11_leavesKept 11 = .ok (.aload_n 0, 1) := by decide +kernel
theorem dX11_leavesKept_12 : decode cX11_leavesKept 12 = .ok (.iload_n 1, 1) := by decide +kernel
theorem dX11_leavesKept_13 : decode cX11_leavesKept 13 = .ok (.invokevirtual 118, 3) := by decide +kernel
theorem dX11_leavesKept_16 : decode cX11_leavesKept 16 = .ok (.ifCond .ne 6, 3) := by decide +kernel
theorem dX11_leavesKept_19 : decode cX11_leavesKept 19 = .ok (.bipush (-3), 2) := by decide +kernel
theorem dX11_leavesKept_21 : decode cX11_leavesKept 21 = .ok (.ireturn, 1) := by decide +kernel
theorem dX11_leavesKept_22 : decode cX11_leavesKept 22 = .ok (.aload_n 0, 1) := by decide +kernel
theorem dX11_leavesKept_23 : decode cX11_leavesKept 23 = .ok (.iconst 3, 1) := by decide +kernel
theorem dX11_leavesKept_24 : decode cX11_leavesKept 24 = .ok (.invokevirtual 337, 3) := by decide +kernel
theorem dX11_leavesKept_27 : decode cX11_leavesKept 27 = .ok (.aload_n 0, 1) := by decide +kernel
theorem dX11_leavesKept_28 : decode cX11_leavesKept 28 = .ok (.getfield 24, 3) := by decide +kernel
theorem dX11_leavesKept_31 : decode cX11_leavesKept 31 = .ok (.bipush 11, 2) := by decide +kernel
theorem dX11_leavesKept_33 : decode cX11_leavesKept 33 = .ok (.iload_n 1, 1) := by decide +kernel
theorem dX11_leavesKept_34 : decode cX11_leavesKept 34 = .ok (.iadd, 1) := by decide +kernel
theorem dX11_leavesKept_35 : decode cX11_leavesKept 35 = .ok (.iconst 0, 1) := by decide +kernel
theorem dX11_leavesKept_36 : decode cX11_leavesKept 36 = .ok (.iastore, 1) := by decide +kernel
theorem dX11_leavesKept_37 : decode cX11_leavesKept 37 = .ok (.aload_n 0, 1) := by decide +kernel
theorem dX11_leavesKept_38 : decode cX11_leavesKept 38 = .ok (.invokevirtual 108, 3) := by decide +kernel
theorem dX11_leavesKept_41 : decode cX11_leavesKept 41 = .ok (.ireturn, 1) := by decide +kernel
theorem dX11_hunt_0 : decode cX11_hunt 0 = .ok (.aload_n 0, 1) := by decide +kernel
theorem dX11_hunt_1 : decode cX11_hunt 1 = .ok (.aload_n 0, 1) := by decide +kernel
theorem dX11_hunt_2 : decode cX11_hunt 2 = .ok (.iload_n 1, 1) := by decide +kernel
theorem dX11_hunt_3 : decode cX11_hunt 3 = .ok (.iload_n 2, 1) := by decide +kernel
theorem dX11_hunt_4 : decode cX11_hunt 4 = .ok (.invokevirtual 347, 3) := by decide +kernel
theorem dX11_hunt_7 : decode cX11_hunt 7 = .ok (.invokevirtual 350, 3) := by decide +kernel
theorem dX11_hunt_10 : decode cX11_hunt 10 = .ok (.ireturn, 1) := by decide +kernel
theorem dX11_sell_0 : decode cX11_sell 0 = .ok (.aload_n 0, 1) := by decide +kernel
theorem dX11_sell_1 : decode cX11_sell 1 = .ok (.aload_n 0, 1) := by decide +kernel
theorem dX11_sell_2 : decode cX11_sell 2 = .ok (.iload_n 1, 1) := by decide +kernel
theorem dX11_sell_3 : decode cX11_sell 3 = .ok (.invokevirtual 353, 3) := by decide +kernel
theorem dX11_sell_6 : decode cX11_sell 6 = .ok (.invokevirtual 350, 3) := by decide +kernel
theorem dX11_sell_9 : decode cX11_sell 9 = .ok (.ireturn, 1) := by decide +kernel
theorem dX11_advance_0 : decode cX11_advance 0 = .ok (.aload_n 0, 1) := by decide +kernel
theorem dX11_advance_1 : decode cX11_advance 1 = .ok (.aload_n 0, 1) := by decide +kernel
theorem dX11_advance_2 : decode cX11_advance 2 = .ok (.iload_n 1, 1) := by decide +kernel
theorem dX11_advance_3 : decode cX11_advance 3 = .ok (.iload_n 2, 1) := by decide +kernel
theorem dX11_advance_4 : decode cX11_advance 4 = .ok (.invokevirtual 356, 3) := by decide +kernel
theorem dX11_advance_7 : decode cX11_advance 7 = .ok (.invokevirtual 350, 3) := by decide +kernel
theorem dX11_advance_10 : decode cX11_advance 10 = .ok (.ireturn, 1) := by decide +kernel
theorem dX11_leave_0 : decode cX11_leave 0 = .ok (.aload_n 0, 1) := by decide +kernel
