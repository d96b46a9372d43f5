theorem dJ6_bitCount_0f7a4_0 : decode cJ6_bitCount_0f7a4 0 = .ok (.iload_n 0, 1) := by decide +kernel
theorem dJ6_bitCount_0f7a4_1 : decode cJ6_bitCount_0f7a4 1 = .ok (.iload_n 0, 1) := by decide +kernel
theorem dJ6_bitCount_0f7a4_2 : decode cJ6_bitCount_0f7a4 2 = .ok (.iconst 1, 1) := by decide +kernel
theorem dJ6_bitCount_0f7a4_3 : decode cJ6_bitCount_0f7a4 3 = .ok (.iushr, 1) := by decide +kernel
theorem dJ6_bitCount_0f7a4_4 : decode cJ6_bitCount_0f7a4 4 = .ok (.ldc_w 265, 3) := by decide +kernel
theorem dJ6_bitCount_0f7a4_7 : decode cJ6_bitCount_0f7a4 7 = .ok (.iand, 1) := by decide +kernel
theorem dJ6_bitCount_0f7a4_8 : decode cJ6_bitCount_0f7a4 8 = .ok (.isub, 1) := by decide +kernel
theorem dJ6_bitCount_0f7a4_9 : decode cJ6_bitCount_0f7a4 9 = .ok (.istore_n 0, 1) := by decide +kernel
theorem dJ6_bitCount_0f7a4_10 : decode cJ6_bitCount_0f7a4 10 = .ok (.iload_n 0, 1) := by decide +kernel
theorem dJ6_bitCount_0f7a4_11 : decode cJ6_bitCount_0f7a4 11 = .ok (.ldc_w 266, 3) := by decide +kernel
theorem dJ6_bitCount_0f7a4_14 : decode cJ6_bitCount_0f7a4 14 = .ok (.iand, 1) := by decide +kernel
theorem dJ6_bitCount_0f7a4_15 : decode cJ6_bitCount_0f7a4 15 = .ok (.iload_n 0, 1) := by decide +kernel
theorem dJ6_bitCount_0f7a4_16 : decode cJ6_bitCount_0f7a4 16 = .ok (.iconst 2, 1) := by decide +kernel
theorem dJ6_bitCount_0f7a4_17 : decode cJ6_bitCount_0f7a4 17 = .ok (.iushr, 1) := by decide +kernel
theorem dJ6_bitCount_0f7a4_18 : decode cJ6_bitCount_0f7a4 18 = .ok (.ldc_w 266, 3) := by decide +kernel
theorem dJ6_bitCount_0f7a4_21 : decode cJ6_bitCount_0f7a4 21 = .ok (.iand, 1) := by decide +kernel
theorem dJ6_bitCount_0f7a4_22 : decode cJ6_bitCount_0f7a4 22 = .ok (.iadd, 1) := by decide +kernel
theorem dJ6_bitCount_0f7a4_23 : decode cJ6_bitCount_0f7a4 23 = .ok (.istore_n 0, 1) := by decide +kernel
theorem dJ6_bitCount_0f7a4_24 : decode cJ6_bitCount_0f7a4 24 = .ok (.iload_n 0, 1) := by decide +kernel
theorem dJ6_bitCount_0f7a4_25 : decode cJ6_bitCount_0f7a4 25 = .ok (.iload_n 0, 1) := by decide +kernel
theorem dJ6_bitCount_0f7a4_26 : decode cJ6_bitCount_0f7a4 26 = .ok (.iconst 4, 1) := by decide +kernel
theorem dJ6_bitCount_0f7a4_27 : decode cJ6_bitCount_0f7a4 27 = .ok (.iushr, 1) := by decide +kernel
theorem dJ6_bitCount_0f7a4_28 : decode cJ6_bitCount_0f7a4 28 = .ok (.iadd, 1) := by decide +kernel
theorem dJ6_bitCount_0f7a4_29 : decode cJ6_bitCount_0f7a4 29 = .ok (.ldc_w 267, 3) := by decide +kernel
theorem dJ6_bitCount_0f7a4_32 : decode cJ6_bitCount_0f7a4 32 = .ok (.iand, 1) := by decide +kernel
theorem dJ6_bitCount_0f7a4_33 : decode cJ6_bitCount_0f7a4 33 = .ok (.istore_n 0, 1) := by decide +kernel
theorem dJ6_bitCount_0f7a4_34 : decode cJ6_bitCount_0f7a4 34 = .ok (.iload_n 0, 1) := by decide +kernel
theorem dJ6_bitCount_0f7a4_35 : decode cJ6_bitCount_0f7a4 35 = .ok (.iload_n 0, 1) := by decide +kernel
theorem dJ6_bitCount_0f7a4_36 : decode cJ6_bitCount_0f7a4 36 = .ok (.bipush 8, 2) := by decide +kernel
theorem dJ6_bitCount_0f7a4_38 : decode cJ6_bitCount_0f7a4 38 = .ok (.iushr, 1) := by decide +kernel
theorem dJ6_bitCount_0f7a4_39 : decode cJ6_bitCount_0f7a4 39 = .ok (.iadd, 1) := by decide +kernel
theorem dJ6_bitCount_0f7a4_40 : decode cJ6_bitCount_0f7a4 40 = .ok (.istore_n 0, 1) := by decide +kernel
theorem dJ6_bitCount_0f7a4_41 : decode cJ6_bitCount_0f7a4 41 = .ok (.iload_n 0, 1) := by decide +kernel
theorem dJ6_bitCount_0f7a4_42 : decode cJ6_bitCount_0f7a4 42 = .ok (.iload_n 0, 1) := by decide +kernel
theorem dJ6_bitCount_0f7a4_43 : decode cJ6_bitCount_0f7a4 43 = .ok (.bipush 16, 2) := by decide +kernel
theorem dJ6_bitCount_0f7a4_45 : decode cJ6_bitCount_0f7a4 45 = .ok (.iushr, 1) := by decide +kernel
theorem dJ6_bitCount_0f7a4_46 : decode cJ6_bitCount_0f7a4 46 = .ok (.iadd, 1) := by decide +kernel
theorem dJ6_bitCount_0f7a4_47 : decode cJ6_bitCount_0f7a4 47 = .ok (.istore_n 0, 1) := by decide +kernel
theorem dJ6_bitCount_0f7a4_48 : decode cJ6_bitCount_0f7a4 48 = .ok (.iload_n 0, 1) := by decide +kernel
theorem dJ6_bitCount_0f7a4_49 : decode cJ6_bitCount_0f7a4 49 = .ok (.bipush 63, 2) := by decide +kernel
theorem dJ6_bitCount_0f7a4_51 : decode cJ6_bitCount_0f7a4 51 = .ok (.iand, 1) := by decide +kernel
theorem dJ6_bitCount_0f7a4_52 : decode cJ6_bitCount_0f7a4 52 = .ok (.ireturn, 1) := by decide +kernel
theorem dJ9_floorDiv_7cf53_0 : decode cJ9_floorDiv_7cf53 0 = .ok (.iload_n 0, 1) := by decide +kernel
theorem dJ9_floorDiv_7cf53_1 : decode cJ9_floorDiv_7cf53 1 = .ok (.iload_n 1, 1) := by decide +kernel
theorem dJ9_floorDiv_7cf53_2 : decode cJ9_floorDiv_7cf53 2 = .ok (.idiv, 1) := by decide +kernel
theorem dJ9_floorDiv_7cf53_3 : decode cJ9_floorDiv_7cf53 3 = .ok (.istore_n 2, 1) := by decide +kernel
theorem dJ9_floorDiv_7cf53_4 : decode cJ9_floorDiv_7cf53 4 = .ok (.iload_n 0, 1) := by decide +kernel
theorem dJ9_floorDiv_7cf53_5 : decode cJ9_floorDiv_7cf53 5 = .ok (.iload_n 1, 1) := by decide +kernel
theorem dJ9_floorDiv_7cf53_6 : decode cJ9_floorDiv_7cf53 6 = .ok (.ixor, 1) := by decide +kernel
theorem dJ9_floorDiv_7cf53_7 : decode cJ9_floorDiv_7cf53 7 = .ok (.ifCond .ge 14, 3) := by decide +kernel
theorem dJ9_floorDiv_7cf53_10 : decode cJ9_floorDiv_7cf53 10 = .ok (.iload_n 2, 1) := by decide +kernel
theorem dJ9_floorDiv_7cf53_11 : decode cJ9_floorDiv_7cf53 11 = .ok (.iload_n 1, 1) := by decide +kernel
theorem dJ9_floorDiv_7cf53_12 : decode cJ9_floorDiv_7cf53 12 = .ok (.imul, 1) := by decide +kernel
theorem dJ9_floorDiv_7cf53_13 : decode cJ9_floorDiv_7cf53 13 = .ok (.iload_n 0, 1) := by decide +kernel
theorem dJ9_floorDiv_7cf53_14 : decode cJ9_floorDiv_7cf53 14 = .ok (.if_icmp .eq 7, 3) := by decide +kernel
theorem dJ9_floorDiv_7cf53_17 : decode cJ9_floorDiv_7cf53 17 = .ok (.iload_n 2, 1) := by decide +kernel
theorem dJ9_floorDiv_7cf53_18 : decode cJ9_floorDiv_7cf53 18 = .ok (.iconst 1, 1) := by decide +kernel
theorem dJ9_floorDiv_7cf53_19 : decode cJ9_floorDiv_7cf53 19 = .ok (.isub, 1) := by decide +kernel
theorem dJ9_floorDiv_7cf53_20 : decode cJ9_floorDiv_7cf53 20 = .ok (.ireturn, 1) := by decide +kernel
theorem dJ9_floorDiv_7cf53_21 : decode cJ9_floorDiv_7cf53 21 = .ok (.iload_n 2, 1) := by decide +kernel
theorem dJ9_floorDiv_7cf53_22 : decode cJ9_floorDiv_7cf53 22 = .ok (.ireturn, 1) := by decide +kernel
theorem dJ9_max_7cf53_0 : decode cJ9_max_7cf53 0 = .ok (.iload_n 0, 1) := by decide +kernel
theorem dJ9_max_7cf53_1 : decode cJ9_max_7cf53 1 = .ok (.iload_n 1, 1) := by decide +kernel
theorem dJ9_max_7cf53_2 : decode cJ9_max_7cf53 2 = .ok (.if_icmp .lt 7, 3) := by decide +kernel
theorem dJ9_max_7cf53_5 : decode cJ9_max_7cf53 5 = .ok (.iload_n 0, 1) := by decide +kernel
theorem dJ9_max_7cf53_6 : decode cJ9_max_7cf53 6 = .ok (.goto 4, 3) := by decide +kernel
theorem dJ9_max_7cf53_9 : decode cJ9_max_7cf53 9 = .ok (.iload_n 1, 1) := by decide +kernel
theorem dJ9_max_7cf53_10 : decode cJ9_max_7cf53 10 = .ok (.ireturn, 1) := by decide +kernel
theorem dJ9_max_f86c9_0 : decode cJ9_max_f86c9 0 = .ok (.lload_n 0, 1) := by decide +kernel
theorem dJ9_max_f86c9_1 : decode cJ9_max_f86c9 1 = .ok (.lload_n 2, 1) := by decide +kernel
theorem dJ9_max_f86c9_2 : decode cJ9_max_f86c9 2 = .ok (.lcmp, 1) := by decide +kernel
theorem dJ9_max_f86c9_3 : decode cJ9_max_f86c9 3 = .ok (.ifCond .lt 7, 3) := by decide +kernel
theorem dJ9_max_f86c9_6 : decode cJ9_max_f86c9 6 = .ok (.lload_n 0, 1) := by decide +kernel
theorem dJ9_max_f86c9_7 : decode cJ9_max_f86c9 7 = .ok (.goto 4, 3) := by decide +kernel
theorem dJ9_max_f86c9_10 : decode cJ9_max_f86c9 10 = .ok (.lload_n 2, 1) := by decide +kernel
theorem dJ9_max_f86c9_11 : decode cJ9_max_f86c9 11 = .ok (.lreturn, 1) := by decide +kernel
theorem dJ9_min_7cf53_0 : decode cJ9_min_7cf53 0 = .ok (.iload_n 0, 1) := by decide +kernel
theorem dJ9_min_7cf53_1 : decode cJ9_min_7cf53 1 = .ok (.iload_n 1, 1) := by decide +kernel
theorem dJ9_min_7cf53_2 : decode cJ9_min_7cf53 2 = .ok (.if_icmp .gt 7, 3) := by decide +kernel
theorem dJ9_min_7cf53_5 : decode cJ9_min_7cf53 5 = .ok (.iload_n 0, 1) := by decide +kernel
theorem dJ9_min_7cf53_6 : decode cJ9_min_7cf53 6 = .ok (.goto 4, 3) := by decide +kernel
theorem dJ9_min_7cf53_9 : decode cJ9_min_7cf53 9 = .ok (.iload_n 1, 1) := by decide +kernel
theorem dJ9_min_7cf53_10 : decode cJ9_min_7cf53 10 = .ok (.ireturn, 1) := by decide +kernel
theorem dJ0_length_8abf5_0 : decode cJ0_length_8abf5 0 = .ok (.aload_n 0, 1) := by decide +kernel
theorem dJ0_length_8abf5_1 : decode cJ0_length_8abf5 1 = .ok (.getfield 9, 3) := by decide +kernel
theorem dJ0_length_8abf5_4 : decode cJ0_length_8abf5 4 = .ok (.arraylength, 1) := by decide +kernel
theorem dJ0_length_8abf5_5 : decode cJ0_length_8abf5 5 = .ok (.aload_n 0, 1) := by decide +kernel
theorem dJ0_length_8abf5_6 : decode cJ0_length_8abf5 6 = .ok (.invokevirtual 335, 3) := by decide +kernel
theorem dJ0_length_8abf5_9 : decode cJ0_length_8abf5 9 = .ok (.ishr, 1) := by decide +kernel
theorem dJ0_length_8abf5_10 : decode cJ0_length_8abf5 10 = .ok (.ireturn, 1) := by decide +kernel
theorem dJ0_charAt_5068e_0 : decode cJ0_charAt_5068e 0 = .ok (.aload_n 0, 1) := by decide +kernel
theorem dJ0_charAt_5068e_1 : decode cJ0_charAt_5068e 1 = .ok (.invokevirtual 492, 3) := by decide +kernel
theorem dJ0_charAt_5068e_4 : decode cJ0_charAt_5068e 4 = .ok (.ifCond .eq 12, 3) := by decide +kernel
theorem dJ0_charAt_5068e_7 : decode cJ0_charAt_5068e 7 = .ok (.aload_n 0, 1) := by decide +kernel
theorem dJ0_charAt_5068e_8 : decode cJ0_charAt_5068e 8 = .ok (.getfield 9, 3) := by decide +kernel
theorem dJ0_charAt_5068e_11 : decode cJ0_charAt_5068e 11 = .ok (.iload_n 1, 1) := by decide +kernel
theorem dJ0_charAt_5068e_12 : decode cJ0_charAt_5068e 12 = .ok (.invokestatic 495, 3) := by decide +kernel
theorem dJ0_charAt_5068e_15 : decode cJ0_charAt_5068e 15 = .ok (.ireturn, 1) := by decide +kernel
theorem dJ0_charAt_5068e_16 : decode cJ0_charAt_5068e 16 = .ok (.aload_n 0, 1) := by decide +kernel
theorem dJ0_charAt_5068e_17 : decode cJ0_charAt_5068e 17 = .ok (.getfield 9, 3) := by decide +kernel
theorem dJ0_charAt_5068e_20 : decode cJ0_charAt_5068e 20 = .ok (.iload_n 1, 1) := by decide +kernel
theorem dJ0_charAt_5068e_21 : decode cJ0_charAt_5068e 21 = .ok (.invokestatic 498, 3) := by decide +kernel
theorem dJ0_charAt_5068e_24 : decode cJ0_charAt_5068e 24 = .ok (.ireturn, 1) := by decide +kernel
theorem dJ0_coder_7d493_0 : decode cJ0_coder_7d493 0 = .ok (.getstatic 38, 3) := by decide +kernel
theorem dJ0_coder_7d493_3 : decode cJ0_coder_7d493 3 = .ok (.ifCond .eq 10, 3) := by decide +kernel
theorem dJ0_coder_7d493_6 : decode cJ0_coder_7d493 6 = .ok (.aload_n 0, 1) := by decide +kernel
theorem dJ0_coder_7d493_7 : decode cJ0_coder_7d493 7 = .ok (.getfield 15, 3) := by decide +kernel
theorem dJ0_coder_7d493_10 : decode cJ0_coder_7d493 10 = .ok (.goto 4, 3) := by decide +kernel
theorem dJ0_coder_7d493_13 : decode cJ0_coder_7d493 13 = .ok (.iconst 1, 1) := by decide +kernel
theorem dJ0_coder_7d493_14 : decode cJ0_coder_7d493 14 = .ok (.ireturn, 1) := by decide +kernel
theorem dJ0_isLatin1_aae02_0 : decode cJ0_isLatin1_aae02 0 = .ok (.getstatic 38, 3) := by decide +kernel
theorem dJ0_isLatin1_aae02_3 : decode cJ0_isLatin1_aae02 3 = .ok (.ifCond .eq 14, 3) := by decide +kernel
theorem dJ0_isLatin1_aae02_6 : decode cJ0_isLatin1_aae02 6 = .ok (.aload_n 0, 1) := by decide +kernel
theorem dJ0_isLatin1_aae02_7 : decode cJ0_isLatin1_aae02 7 = .ok (.getfield 15, 3) := by decide +kernel
theorem dJ0_isLatin1_aae02_10 : decode cJ0_isLatin1_aae02 10 = .ok (.ifCond .ne 7, 3) := by decide +kernel
theorem dJ0_isLatin1_aae02_13 : decode cJ0_isLatin1_aae02 13 = .ok (.iconst 1, 1) := by decide +kernel
theorem dJ0_isLatin1_aae02_14 : decode cJ0_isLatin1_aae02 14 = .ok (.goto 4, 3) := by decide +kernel
theorem dJ0_isLatin1_aae02_17 : decode cJ0_isLatin1_aae02 17 = .ok (.iconst 0, 1) := by decide +kernel
theorem dJ0_isLatin1_aae02_18 : decode cJ0_isLatin1_aae02 18 = .ok (.ireturn, 1) := by decide +kernel
theorem dJ0_checkIndex_df160_0 : decode cJ0_checkIndex_df160 0 = .ok (.iload_n 0, 1) := by decide +kernel
theorem dJ0_checkIndex_df160_1 : decode cJ0_checkIndex_df160 1 = .ok (.iload_n 1, 1) := by decide +kernel
theorem dJ0_checkIndex_df160_2 : decode cJ0_checkIndex_df160 2 = .ok (.getstatic 1053, 3) := by decide +kernel
theorem dJ0_checkIndex_df160_5 : decode cJ0_checkIndex_df160 5 = .ok (.invokestatic 1059, 3) := by decide +kernel
theorem dJ0_checkIndex_df160_8 : decode cJ0_checkIndex_df160 8 = .ok (.pop, 1) := by decide +kernel
theorem dJ0_checkIndex_df160_9 : decode cJ0_checkIndex_df160 9 = .ok (.return_, 1) := by decide +kernel
theorem dJ1_charAt_3b067_0 : decode cJ1_charAt_3b067 0 = .ok (.iload_n 1, 1) := by decide +kernel
theorem dJ1_charAt_3b067_1 : decode cJ1_charAt_3b067 1 = .ok (.aload_n 0, 1) := by decide +kernel
theorem dJ1_charAt_3b067_2 : decode cJ1_charAt_3b067 2 = .ok (.arraylength, 1) := by decide +kernel
theorem dJ1_charAt_3b067_3 : decode cJ1_charAt_3b067 3 = .ok (.invokestatic 9, 3) := by decide +kernel
theorem dJ1_charAt_3b067_6 : decode cJ1_charAt_3b067 6 = .ok (.aload_n 0, 1) := by decide +kernel
theorem dJ1_charAt_3b067_7 : decode cJ1_charAt_3b067 7 = .ok (.iload_n 1, 1) := by decide +kernel
theorem dJ1_charAt_3b067_8 : decode cJ1_charAt_3b067 8 = .ok (.baload, 1) := by decide +kernel
theorem dJ1_charAt_3b067_9 : decode cJ1_charAt_3b067 9 = .ok (.sipush 255, 3) := by decide +kernel
theorem dJ1_charAt_3b067_12 : decode cJ1_charAt_3b067 12 = .ok (.iand, 1) := by decide +kernel
theorem dJ1_charAt_3b067_13 : decode cJ1_charAt_3b067 13 = .ok (.i2c, 1) := by decide +kernel
theorem dJ1_charAt_3b067_14 : decode cJ1_charAt_3b067 14 = .ok (.ireturn, 1) := by decide +kernel
theorem dJ2_getChar_3b067_0 : decode cJ2_getChar_3b067 0 = .ok (.getstatic 44, 3) := by decide +kernel
theorem dJ2_getChar_3b067_3 : decode cJ2_getChar_3b067 3 = .ok (.ifCond .ne 25, 3) := by decide +kernel
theorem dJ2_getChar_3b067_6 : decode cJ2_getChar_3b067 6 = .ok (.iload_n 1, 1) := by decide +kernel
theorem dJ2_getChar_3b067_7 : decode cJ2_getChar_3b067 7 = .ok (.ifCond .lt 11, 3) := by decide +kernel
theorem dJ2_getChar_3b067_10 : decode cJ2_getChar_3b067 10 = .ok (.iload_n 1, 1) := by decide +kernel
theorem dJ2_getChar_3b067_11 : decode cJ2_getChar_3b067 11 = .ok (.aload_n 0, 1) := by decide +kernel
theorem dJ2_getChar_3b067_12 : decode cJ2_getChar_3b067 12 = .ok (.invokestatic 48, 3) := by decide +kernel
theorem dJ2_getChar_3b067_15 : decode cJ2_getChar_3b067 15 = .ok (.if_icmp .lt 13, 3) := by decide +kernel
theorem dJ2_getChar_3b067_18 : decode cJ2_getChar_3b067 18 = .ok (.new 52, 3) := by decide +kernel
theorem dJ2_getChar_3b067_21 : decode cJ2_getChar_3b067 21 = .ok (.dup, 1) := by decide +kernel
theorem dJ2_getChar_3b067_22 : decode cJ2_getChar_3b067 22 = .ok (.ldc 54, 2) := by decide +kernel
theorem dJ2_getChar_3b067_24 : decode cJ2_getChar_3b067 24 = .ok (.invokespecial 56, 3) := by decide +kernel
theorem dJ2_getChar_3b067_27 : decode cJ2_getChar_3b067 27 = .ok (.athrow, 1) := by decide +kernel
theorem dJ2_getChar_3b067_28 : decode cJ2_getChar_3b067 28 = .ok (.iload_n 1, 1) := by decide +kernel
theorem dJ2_getChar_3b067_29 : decode cJ2_getChar_3b067 29 = .ok (.iconst 1, 1) := by decide +kernel
theorem dJ2_getChar_3b067_30 : decode cJ2_getChar_3b067 30 = .ok (.ishl, 1) := by decide +kernel
theorem dJ2_getChar_3b067_31 : decode cJ2_getChar_3b067 31 = .ok (.istore_n 1, 1) := by decide +kernel
theorem dJ2_getChar_3b067_32 : decode cJ2_getChar_3b067 32 = .ok (.aload_n 0, 1) := by decide +kernel
theorem dJ2_getChar_3b067_33 : decode cJ2_getChar_3b067 33 = .ok (.iload_n 1, 1) := by decide +kernel
theorem dJ2_getChar_3b067_34 : decode cJ2_getChar_3b067 34 = .ok (.iinc 1 1, 3) := by decide +kernel
theorem dJ2_getChar_3b067_37 : decode cJ2_getChar_3b067 37 = .ok (.baload, 1) := by decide +kernel
theorem dJ2_getChar_3b067_38 : decode cJ2_getChar_3b067 38 = .ok (.sipush 255, 3) := by decide +kernel
theorem dJ2_getChar_3b067_41 : decode cJ2_getChar_3b067 41 = .ok (.iand, 1) := by decide +kernel
theorem dJ2_getChar_3b067_42 : decode cJ2_getChar_3b067 42 = .ok (.getstatic 59, 3) := by decide +kernel
theorem dJ2_getChar_3b067_45 : decode cJ2_getChar_3b067 45 = .ok (.ishl, 1) := by decide +kernel
theorem dJ2_getChar_3b067_46 : decode cJ2_getChar_3b067 46 = .ok (.aload_n 0, 1) := by decide +kernel
theorem dJ2_getChar_3b067_47 : decode cJ2_getChar_3b067 47 = .ok (.iload_n 1, 1) := by decide +kernel
theorem dJ2_getChar_3b067_48 : decode cJ2_getChar_3b067 48 = .ok (.baload, 1) := by decide +kernel
theorem dJ2_getChar_3b067_49 : decode cJ2_getChar_3b067 49 = .ok (.sipush 255, 3) := by decide +kernel
theorem dJ2_getChar_3b067_52 : decode cJ2_getChar_3b067 52 = .ok (.iand, 1) := by decide +kernel
theorem dJ2_getChar_3b067_53 : decode cJ2_getChar_3b067 53 = .ok (.getstatic 63, 3) := by decide +kernel
theorem dJ2_getChar_3b067_56 : decode cJ2_getChar_3b067 56 = .ok (.ishl, 1) := by decide +kernel
theorem dJ2_getChar_3b067_57 : decode cJ2_getChar_3b067 57 = .ok (.ior, 1) := by decide +kernel
theorem dJ2_getChar_3b067_58 : decode cJ2_getChar_3b067 58 = .ok (.i2c, 1) := by decide +kernel
theorem dJ2_getChar_3b067_59 : decode cJ2_getChar_3b067 59 = .ok (.ireturn, 1) := by decide +kernel
theorem dJ2_length_9d52b_0 : decode cJ2_length_9d52b 0 = .ok (.aload_n 0, 1) := by decide +kernel
theorem dJ2_length_9d52b_1 : decode cJ2_length_9d52b 1 = .ok (.arraylength, 1) := by decide +kernel
theorem dJ2_length_9d52b_2 : decode cJ2_length_9d52b 2 = .ok (.iconst 1, 1) := by decide +kernel
theorem dJ2_length_9d52b_3 : decode cJ2_length_9d52b 3 = .ok (.ishr, 1) := by decide +kernel
theorem dJ2_length_9d52b_4 : decode cJ2_length_9d52b 4 = .ok (.ireturn, 1) := by decide +kernel
theorem dJ2_charAt_3b067_0 : decode cJ2_charAt_3b067 0 = .ok (.iload_n 1, 1) := by decide +kernel
theorem dJ2_charAt_3b067_1 : decode cJ2_charAt_3b067 1 = .ok (.aload_n 0, 1) := by decide +kernel
theorem dJ2_charAt_3b067_2 : decode cJ2_charAt_3b067 2 = .ok (.invokestatic 67, 3) := by decide +kernel
theorem dJ2_charAt_3b067_5 : decode cJ2_charAt_3b067 5 = .ok (.aload_n 0, 1) := by decide +kernel
theorem dJ2_charAt_3b067_6 : decode cJ2_charAt_3b067 6 = .ok (.iload_n 1, 1) := by decide +kernel
theorem dJ2_charAt_3b067_7 : decode cJ2_charAt_3b067 7 = .ok (.invokestatic 71, 3) := by decide +kernel
theorem dJ2_charAt_3b067_10 : decode cJ2_charAt_3b067 10 = .ok (.ireturn, 1) := by decide +kernel
theorem dJ2_checkIndex_2214a_0 : decode cJ2_checkIndex_2214a 0 = .ok (.iload_n 0, 1) := by decide +kernel
theorem dJ2_checkIndex_2214a_1 : decode cJ2_checkIndex_2214a 1 = .ok (.aload_n 1, 1) := by decide +kernel
theorem dJ2_checkIndex_2214a_2 : decode cJ2_checkIndex_2214a 2 = .ok (.invokestatic 48, 3) := by decide +kernel
theorem dJ2_checkIndex_2214a_5 : decode cJ2_checkIndex_2214a 5 = .ok (.invokestatic 414, 3) := by decide +kernel
theorem dJ2_checkIndex_2214a_8 : decode cJ2_checkIndex_2214a 8 = .ok (.return_, 1) := by decide +kernel
theorem dJ3_checkIndex_8e157_0 : decode cJ3_checkIndex_8e157 0 = .ok (.iload_n 0, 1) := by decide +kernel
theorem dJ3_checkIndex_8e157_1 : decode cJ3_checkIndex_8e157 1 = .ok (.ifCond .lt 8, 3) := by decide +kernel
theorem dJ3_checkIndex_8e157_4 : decode cJ3_checkIndex_8e157 4 = .ok (.iload_n 0, 1) := by decide +kernel
theorem dJ3_checkIndex_8e157_5 : decode cJ3_checkIndex_8e157 5 = .ok (.iload_n 1, 1) := by decide +kernel
theorem dJ3_checkIndex_8e157_6 : decode cJ3_checkIndex_8e157 6 = .ok (.if_icmp .lt 10, 3) := by decide +kernel
theorem dJ3_checkIndex_8e157_9 : decode cJ3_checkIndex_8e157 9 = .ok (.aload_n 2, 1) := by decide +kernel
theorem dJ3_checkIndex_8e157_10 : decode cJ3_checkIndex_8e157 10 = .ok (.iload_n 0, 1) := by decide +kernel
theorem dJ3_checkIndex_8e157_11 : decode cJ3_checkIndex_8e157 11 = .ok (.iload_n 1, 1) := by decide +kernel
theorem dJ3_checkIndex_8e157_12 : decode cJ3_checkIndex_8e157 12 = .ok (.invokestatic 95, 3) := by decide +kernel
theorem dJ3_checkIndex_8e157_15 : decode cJ3_checkIndex_8e157 15 = .ok (.athrow, 1) := by decide +kernel
theorem dJ3_checkIndex_8e157_16 : decode cJ3_checkIndex_8e157 16 = .ok (.iload_n 0, 1) := by decide +kernel
theorem dJ3_checkIndex_8e157_17 : decode cJ3_checkIndex_8e157 17 = .ok (.ireturn, 1) := by decide +kernel
theorem dX0_init_0 : decode cX0_init 0 = .ok (.aload_n 0, 1) := by decide +kernel
theorem dX0_init_1 : decode cX0_init 1 = .ok (.invokespecial 3, 3) := by decide +kernel
theorem dX0_init_4 : decode cX0_init 4 = .ok (.aload_n 0, 1) := by decide +kernel
theorem dX0_init_5 : decode cX0_init 5 = .ok (.new 9, 3) := by decide +kernel
theorem dX0_init_8 : decode cX0_init 8 = .ok (.dup, 1) := by decide +kernel
theorem dX0_init_9 : decode cX0_init 9 = .ok (.invokespecial 11, 3) := by decide +kernel
theorem dX0_init_12 : decode cX0_init 12 = .ok (.putfield 12, 3) := by decide +kernel
theorem dX0_init_15 : decode cX0_init 15 = .ok (.aload_n 0, 1) := by decide +kernel
theorem dX0_init_16 : decode cX0_init 16 = .ok (.bipush 25, 2) := by decide +kernel
theorem dX0_init_18 : decode cX0_init 18 = .ok (.newarray .int, 2) := by decide +kernel
theorem dX0_init_20 : decode cX0_init 20 = .ok (.putfield 18, 3) := by decide +kernel
theorem dX0_init_23 : decode cX0_init 23 = .ok (.aload_n 0, 1) := by decide +kernel
theorem dX0_init_24 : decode cX0_init 24 = .ok (.iconst (-1), 1) := by decide +kernel
theorem dX0_init_25 : decode cX0_init 25 = .ok (.putfield 22, 3) := by decide +kernel
theorem dX0_init_28 : decode cX0_init 28 = .ok (.aload_n 0, 1) := by decide +kernel
theorem dX0_init_29 : decode cX0_init 29 = .ok (.aload_n 1, 1) := by decide +kernel
theorem dX0_init_30 : decode cX0_init 30 = .ok (.putfield 26, 3) := by decide +kernel
theorem dX0_init_33 : decode cX0_init 33 = .ok (.return_, 1) := by decide +kernel
theorem dX0_run_0 : decode cX0_run 0 = .ok (.aload_n 0, 1) := by decide +kernel
theorem dX0_run_1 : decode cX0_run 1 = .ok (.getfield 18, 3) := by decide +kernel
theorem dX0_run_4 : decode cX0_run 4 = .ok (.bipush 10, 2) := by decide +kernel
theorem dX0_run_6 : decode cX0_run 6 = .ok (.iconst 0, 1) := by decide +kernel
theorem dX0_run_7 : decode cX0_run 7 = .ok (.iastore, 1) := by decide +kernel
theorem dX0_run_8 : decode cX0_run 8 = .ok (.aload_n 0, 1) := by decide +kernel
theorem dX0_run_9 : decode cX0_run 9 = .ok (.getfield 18, 3) := by decide +kernel
theorem dX0_run_12 : decode cX0_run 12 = .ok (.bipush 11, 2) := by decide +kernel
theorem dX0_run_14 : decode cX0_run 14 = .ok (.iconst (-1), 1) := by decide +kernel
theorem dX0_run_15 : decode cX0_run 15 = .ok (.iastore, 1) := by decide +kernel
theorem dX0_run_16 : decode cX0_run 16 = .ok (.aload_n 0, 1) := by decide +kernel
theorem dX0_run_17 : decode cX0_run 17 = .ok (.iconst (-1), 1) := by decide +kernel
theorem dX0_run_18 : decode cX0_run 18 = .ok (.putfield 22, 3) := by decide +kernel
theorem dX0_run_21 : decode cX0_run 21 = .ok (.iconst 0, 1) := by decide +kernel
theorem dX0_run_22 : decode cX0_run 22 = .ok (.istore 4, 2) := by decide +kernel
theorem dX0_run_24 : decode cX0_run 24 = .ok (.iload 4, 2) := by decide +kernel
theorem dX0_run_26 : decode cX0_run 26 = .ok (.aload_n 1, 1) := by decide +kernel
theorem dX0_run_27 : decode cX0_run 27 = .ok (.getfield 30, 3) := by decide +kernel
theorem dX0_run_30 : decode cX0_run 30 = .ok (.if_icmp .ge 184, 3) := by decide +kernel
theorem dX0_run_33 : decode cX0_run 33 = .ok (.aload_n 1, 1) := by decide +kernel
theorem dX0_run_34 : decode cX0_run 34 = .ok (.iload 4, 2) := by decide +kernel
theorem dX0_run_36 : decode cX0_run 36 = .ok (.iconst 0, 1) := by decide +kernel
theorem dX0_run_37 : decode cX0_run 37 = .ok (.invokevirtual 35, 3) := by decide +kernel
theorem dX0_run_40 : decode cX0_run 40 = .ok (.istore 5, 2) := by decide +kernel
theorem dX0_run_42 : decode cX0_run 42 = .ok (.aload_n 1, 1) := by decide +kernel
theorem dX0_run_43 : decode cX0_run 43 = .ok (.iload 4, 2) := by decide +kernel
theorem dX0_run_45 : decode cX0_run 45 = .ok (.iconst 4, 1) := by decide +kernel
theorem dX0_run_46 : decode cX0_run 46 = .ok (.invokevirtual 35, 3) := by decide +kernel
theorem dX0_run_49 : decode cX0_run 49 = .ok (.istore 6, 2) := by decide +kernel
theorem dX0_run_51 : decode cX0_run 51 = .ok (.iconst 0, 1) := by decide +kernel
theorem dX0_run_52 : decode cX0_run 52 = .ok (.istore 7, 2) := by decide +kernel
theorem dX0_run_54 : decode cX0_run 54 = .ok (.iload 7, 2) := by decide +kernel
theorem dX0_run_56 : decode cX0_run 56 = .ok (.iload 6, 2) := by decide +kernel
theorem dX0_run_58 : decode cX0_run 58 = .ok (.if_icmp .ge 150, 3) := by decide +kernel
theorem dX0_run_61 : decode cX0_run 61 = .ok (.aload_n 0, 1) := by decide +kernel
theorem dX0_run_62 : decode cX0_run 62 = .ok (.aload_n 2, 1) := by decide +kernel
theorem dX0_run_63 : decode cX0_run 63 = .ok (.invokevirtual 39, 3) := by decide +kernel
theorem dX0_run_66 : decode cX0_run 66 = .ok (.aload_n 1, 1) := by decide +kernel
theorem dX0_run_67 : decode cX0_run 67 = .ok (.iload 4, 2) := by decide +kernel
theorem dX0_run_69 : decode cX0_run 69 = .ok (.iconst 3, 1) := by decide +kernel
theorem dX0_run_70 : decode cX0_run 70 = .ok (.invokevirtual 35, 3) := by decide +kernel
theorem dX0_run_73 : decode cX0_run 73 = .ok (.istore 8, 2) := by decide +kernel
theorem dX0_run_75 : decode cX0_run 75 = .ok (.iload 8, 2) := by decide +kernel
theorem dX0_run_77 : decode cX0_run 77 = .ok (.iconst (-1), 1) := by decide +kernel
theorem dX0_run_78 : decode cX0_run 78 = .ok (.if_icmp .eq 27, 3) := by decide +kernel
theorem dX0_run_81 : decode cX0_run 81 = .ok (.aload_n 0, 1) := by decide +kernel
theorem dX0_run_82 : decode cX0_run 82 = .ok (.getfield 12, 3) := by decide +kernel
theorem dX0_run_85 : decode cX0_run 85 = .ok (.aload_n 1, 1) := by decide +kernel
theorem dX0_run_86 : decode cX0_run 86 = .ok (.getfield 43, 3) := by decide +kernel
theorem dX0_run_89 : decode cX0_run 89 = .ok (.iload 8, 2) := by decide +kernel
theorem dX0_run_91 : decode cX0_run 91 = .ok (.aload_n 0, 1) := by decide +kernel
theorem dX0_run_92 : decode cX0_run 92 = .ok (.getfield 18, 3) := by decide +kernel
theorem dX0_run_95 : decode cX0_run 95 = .ok (.invokevirtual 46, 3) := by decide +kernel
theorem dX0_run_98 : decode cX0_run 98 = .ok (.iconst 1, 1) := by decide +kernel
theorem dX0_run_99 : decode cX0_run 99 = .ok (.if_icmp .eq 6, 3) := by decide +kernel
theorem dX0_run_102 : decode cX0_run 102 = .ok (.goto 100, 3) := by decide +kernel
theorem dX0_run_105 : decode cX0_run 105 = .ok (.aload_n 0, 1) := by decide +kernel
theorem dX0_run_106 : decode cX0_run 106 = .ok (.aload_n 1, 1) := by decide +kernel
theorem dX0_run_107 : decode cX0_run 107 = .ok (.iload 4, 2) := by decide +kernel
theorem dX0_run_109 : decode cX0_run 109 = .ok (.iconst 1, 1) := by decide +kernel
theorem dX0_run_110 : decode cX0_run 110 = .ok (.invokevirtual 50, 3) := by decide +kernel
theorem dX0_run_113 : decode cX0_run 113 = .ok (.istore 9, 2) := by decide +kernel
theorem dX0_run_115 : decode cX0_run 115 = .ok (.aload_n 0, 1) := by decide +kernel
theorem dX0_run_116 : decode cX0_run 116 = .ok (.aload_n 1, 1) := by decide +kernel
theorem dX0_run_117 : decode cX0_run 117 = .ok (.iload 4, 2) := by decide +kernel
theorem dX0_run_119 : decode cX0_run 119 = .ok (.iconst 2, 1) := by decide +kernel
theorem dX0_run_120 : decode cX0_run 120 = .ok (.invokevirtual 50, 3) := by decide +kernel
theorem dX0_run_123 : decode cX0_run 123 = .ok (.istore 10, 2) := by decide +kernel
theorem dX0_run_125 : decode cX0_run 125 = .ok (.iload 9, 2) := by decide +kernel
theorem dX0_run_127 : decode cX0_run 127 = .ok (.ldc 54, 2) := by decide +kernel
theorem dX0_run_129 : decode cX0_run 129 = .ok (.if_icmp .eq 10, 3) := by decide +kernel
theorem dX0_run_132 : decode cX0_run 132 = .ok (.iload 10, 2) := by decide +kernel
theorem dX0_run_134 : decode cX0_run 134 = .ok (.ldc 54, 2) := by decide +kernel
theorem dX0_run_136 : decode cX0_run 136 = .ok (.if_icmp .ne 8, 3) := by decide +kernel
theorem dX0_run_139 : decode cX0_run 139 = .ok (.bipush (-3), 2) := by decide +kernel
theorem dX0_run_141 : decode cX0_run 141 = .ok (.goto 18, 3) := by decide +kernel
theorem dX0_run_144 : decode cX0_run 144 = .ok (.aload_n 0, 1) := by decide +kernel
theorem dX0_run_145 : decode cX0_run 145 = .ok (.getfield 26, 3) := by decide +kernel
theorem dX0_run_148 : decode cX0_run 148 = .ok (.aload_n 2, 1) := by decide +kernel
theorem dX0_run_149 : decode cX0_run 149 = .ok (.aload_n 3, 1) := by decide +kernel
theorem dX0_run_150 : decode cX0_run 150 = .ok (.iload 5, 2) := by decide +kernel
theorem dX0_run_152 : decode cX0_run 152 = .ok (.iload 9, 2) := by decide +kernel
theorem dX0_run_154 : decode cX0_run 154 = .ok (.iload 10, 2) := by decide +kernel
theorem dX0_run_156 : decode cX0_run 156 = .ok (.invokevirtual 55, 3) := by decide +kernel
theorem dX0_run_159 : decode cX0_run 159 = .ok (.istore 11, 2) := by decide +kernel
theorem dX0_run_161 : decode cX0_run 161 = .ok (.iload 11, 2) := by decide +kernel
theorem dX0_run_163 : decode cX0_run 163 = .ok (.ifCond .ge 12, 3) := by decide +kernel
theorem dX0_run_166 : decode cX0_run 166 = .ok (.aload_n 0, 1) := by decide +kernel
theorem dX0_run_167 : decode cX0_run 167 = .ok (.iload 4, 2) := by decide +kernel
theorem dX0_run_169 : decode cX0_run 169 = .ok (.putfield 22, 3) := by decide +kernel
theorem dX0_run_172 : decode cX0_run 172 = .ok (.bipush (-3), 2) := by decide +kernel
theorem dX0_run_174 : decode cX0_run 174 = .ok (.ireturn, 1) := by decide +kernel
theorem dX0_run_175 : decode cX0_run 175 = .ok (.aload_n 0, 1) := by decide +kernel
theorem dX0_run_176 : decode cX0_run 176 = .ok (.getfield 18, 3) := by decide +kernel
theorem dX0_run_179 : decode cX0_run 179 = .ok (.bipush 10, 2) := by decide +kernel
theorem dX0_run_181 : decode cX0_run 181 = .ok (.dup2, 1) := by decide +kernel
theorem dX0_run_182 : decode cX0_run 182 = .ok (.iaload, 1) := by decide +kernel
theorem dX0_run_183 : decode cX0_run 183 = .ok (.iconst 1, 1) := by decide +kernel
theorem dX0_run_184 : decode cX0_run 184 = .ok (.iadd, 1) := by decide +kernel
theorem dX0_run_185 : decode cX0_run 185 = .ok (.iastore, 1) := by decide +kernel
theorem dX0_run_186 : decode cX0_run 186 = .ok (.iload 5, 2) := by decide +kernel
theorem dX0_run_188 : decode cX0_run 188 = .ok (.bipush 16, 2) := by decide +kernel
theorem dX0_run_190 : decode cX0_run 190 = .ok (.if_icmp .ne 12, 3) := by decide +kernel
theorem dX0_run_193 : decode cX0_run 193 = .ok (.aload_n 0, 1) := by decide +kernel
theorem dX0_run_194 : decode cX0_run 194 = .ok (.getfield 18, 3) := by decide +kernel
theorem dX0_run_197 : decode cX0_run 197 = .ok (.bipush 11, 2) := by decide +kernel
theorem dX0_run_199 : decode cX0_run 199 = .ok (.iload 11, 2) := by decide +kernel
theorem dX0_run_201 : decode cX0_run 201 = .ok (.iastore, 1) := by decide +kernel
theorem dX0_run_202 : decode cX0_run 202 = .ok (.iinc 7 1, 3) := by decide +kernel
theorem dX0_run_205 : decode cX0_run 205 = .ok (.goto (-151), 3) := by decide +kernel
theorem dX0_run_208 : decode cX0_run 208 = .ok (.iinc 4 1, 3) := by decide +kernel
theorem dX0_run_211 : decode cX0_run 211 = .ok (.goto (-187), 3) := by decide +kernel
theorem dX0_run_214 : decode cX0_run 214 = .ok (.aload_n 0, 1) := by decide +kernel
theorem dX0_run_215 : decode cX0_run 215 = .ok (.getfield 18, 3) := by decide +kernel
theorem dX0_run_218 : decode cX0_run 218 = .ok (.bipush 10, 2) := by decide +kernel
theorem dX0_run_220 : decode cX0_run 220 = .ok (.iaload, 1) := by decide +kernel
theorem dX0_run_221 : decode cX0_run 221 = .ok (.ireturn, 1) := by decide +kernel
theorem dX0_valueOf_0 : decode cX0_valueOf 0 = .ok (.aload_n 1, 1) := by decide +kernel
theorem dX0_valueOf_1 : decode cX0_valueOf 1 = .ok (.iload_n 2, 1) := by decide +kernel
theorem dX0_valueOf_2 : decode cX0_valueOf 2 = .ok (.iload_n 3, 1) := by decide +kernel
theorem dX0_valueOf_3 : decode cX0_valueOf 3 = .ok (.invokevirtual 35, 3) := by decide +kernel
theorem dX0_valueOf_6 : decode cX0_valueOf 6 = .ok (.istore 4, 2) := by decide +kernel
theorem dX0_valueOf_8 : decode cX0_valueOf 8 = .ok (.iload 4, 2) := by decide +kernel
theorem dX0_valueOf_10 : decode cX0_valueOf 10 = .ok (.iconst (-1), 1) := by decide +kernel
theorem dX0_valueOf_11 : decode cX0_valueOf 11 = .ok (.if_icmp .ne 7, 3) := by decide +kernel
theorem dX0_valueOf_14 : decode cX0_valueOf 14 = .ok (.iconst 0, 1) := by decide +kernel
theorem dX0_valueOf_15 : decode cX0_valueOf 15 = .ok (.goto 20, 3) := by decide +kernel
theorem dX0_valueOf_18 : decode cX0_valueOf 18 = .ok (.aload_n 0, 1) := by decide +kernel
theorem dX0_valueOf_19 : decode cX0_valueOf 19 = .ok (.getfield 12, 3) := by decide +kernel
theorem dX0_valueOf_22 : decode cX0_valueOf 22 = .ok (.aload_n 1, 1) := by decide +kernel
theorem dX0_valueOf_23 : decode cX0_valueOf 23 = .ok (.getfield 43, 3) := by decide +kernel
theorem dX0_valueOf_26 : decode cX0_valueOf 26 = .ok (.iload 4, 2) := by decide +kernel
theorem dX0_valueOf_28 : decode cX0_valueOf 28 = .ok (.aload_n 0, 1) := by decide +kernel
theorem dX0_valueOf_29 : decode cX0_valueOf 29 = .ok (.getfield 18, 3) := by decide +kernel
theorem dX0_valueOf_32 : decode cX0_valueOf 32 = .ok (.invokevirtual 46, 3) := by decide +kernel
theorem dX0_valueOf_35 : decode cX0_valueOf 35 = .ok (.ireturn, 1) := by decide +kernel
theorem dX0_look_0 : decode cX0_look 0 = .ok (.aload_n 0, 1) := by decide +kernel
theorem dX0_look_1 : decode cX0_look 1 = .ok (.getfield 18, 3) := by decide +kernel
theorem dX0_look_4 : decode cX0_look 4 = .ok (.bipush 8, 2) := by decide +kernel
theorem dX0_look_6 : decode cX0_look 6 = .ok (.aload_n 1, 1) := by decide +kernel
theorem dX0_look_7 : decode cX0_look 7 = .ok (.getfield 61, 3) := by decide +kernel
theorem dX0_look_10 : decode cX0_look 10 = .ok (.iconst 0, 1) := by decide +kernel
theorem dX0_look_11 : decode cX0_look 11 = .ok (.iaload, 1) := by decide +kernel
theorem dX0_look_12 : decode cX0_look 12 = .ok (.iastore, 1) := by decide +kernel
theorem dX0_look_13 : decode cX0_look 13 = .ok (.aload_n 0, 1) := by decide +kernel
theorem dX0_look_14 : decode cX0_look 14 = .ok (.getfield 18, 3) := by decide +kernel
theorem dX0_look_17 : decode cX0_look 17 = .ok (.bipush 6, 2) := by decide +kernel
theorem dX0_look_19 : decode cX0_look 19 = .ok (.aload_n 1, 1) := by decide +kernel
theorem dX0_look_20 : decode cX0_look 20 = .ok (.getfield 66, 3) := by decide +kernel
theorem dX0_look_23 : decode cX0_look 23 = .ok (.iastore, 1) := by decide +kernel
theorem dX0_look_24 : decode cX0_look 24 = .ok (.aload_n 0, 1) := by decide +kernel
theorem dX0_look_25 : decode cX0_look 25 = .ok (.getfield 18, 3) := by decide +kernel
theorem dX0_look_28 : decode cX0_look 28 = .ok (.bipush 12, 2) := by decide +kernel
theorem dX0_look_30 : decode cX0_look 30 = .ok (.aload_n 1, 1) := by decide +kernel
theorem dX0_look_31 : decode cX0_look 31 = .ok (.getfield 69, 3) := by decide +kernel
theorem dX0_look_34 : decode cX0_look 34 = .ok (.iastore, 1) := by decide +kernel
theorem dX0_look_35 : decode cX0_look 35 = .ok (.iconst 0, 1) := by decide +kernel
theorem dX0_look_36 : decode cX0_look 36 = .ok (.istore_n 2, 1) := by decide +kernel
theorem dX0_look_37 : decode cX0_look 37 = .ok (.iload_n 2, 1) := by decide +kernel
theorem dX0_look_38 : decode cX0_look 38 = .ok (.bipush 8, 2) := by decide +kernel
theorem dX0_look_40 : decode cX0_look 40 = .ok (.if_icmp .ge 36, 3) := by decide +kernel
theorem dX0_look_43 : decode cX0_look 43 = .ok (.aload_n 0, 1) := by decide +kernel
theorem dX0_look_44 : decode cX0_look 44 = .ok (.getfield 18, 3) := by decide +kernel
theorem dX0_look_47 : decode cX0_look 47 = .ok (.bipush 13, 2) := by decide +kernel
theorem dX0_look_49 : decode cX0_look 49 = .ok (.iload_n 2, 1) := by decide +kernel
theorem dX0_look_50 : decode cX0_look 50 = .ok (.iadd, 1) := by decide +kernel
theorem dX0_look_51 : decode cX0_look 51 = .ok (.iload_n 2, 1) := by decide +kernel
theorem dX0_look_52 : decode cX0_look 52 = .ok (.aload_n 1, 1) := by decide +kernel
theorem dX0_look_53 : decode cX0_look 53 = .ok (.getfield 72, 3) := by decide +kernel
theorem dX0_look_56 : decode cX0_look 56 = .ok (.if_icmp .ge 12, 3) := by decide +kernel
theorem dX0_look_59 : decode cX0_look 59 = .ok (.aload_n 1, 1) := by decide +kernel
theorem dX0_look_60 : decode cX0_look 60 = .ok (.getfield 75, 3) := by decide +kernel
theorem dX0_look_63 : decode cX0_look 63 = .ok (.iload_n 2, 1) := by decide +kernel
theorem dX0_look_64 : decode cX0_look 64 = .ok (.iaload, 1) := by decide +kernel
theorem dX0_look_65 : decode cX0_look 65 = .ok (.goto 4, 3) := by decide +kernel
theorem dX0_look_68 : decode cX0_look 68 = .ok (.iconst (-1), 1) := by decide +kernel
theorem dX0_look_69 : decode cX0_look 69 = .ok (.iastore, 1) := by decide +kernel
theorem dX0_look_70 : decode cX0_look 70 = .ok (.iinc 2 1, 3) := by decide +kernel
theorem dX0_look_73 : decode cX0_look 73 = .ok (.goto (-36), 3) := by decide +kernel
theorem dX0_look_76 : decode cX0_look 76 = .ok (.iconst 0, 1) := by decide +kernel
theorem dX0_look_77 : decode cX0_look 77 = .ok (.istore_n 2, 1) := by decide +kernel
theorem dX0_look_78 : decode cX0_look 78 = .ok (.iload_n 2, 1) := by decide +kernel
theorem dX0_look_79 : decode cX0_look 79 = .ok (.iconst 4, 1) := by decide +kernel
theorem dX0_look_80 : decode cX0_look 80 = .ok (.if_icmp .ge 36, 3) := by decide +kernel
theorem dX0_look_83 : decode cX0_look 83 = .ok (.aload_n 0, 1) := by decide +kernel
theorem dX0_look_84 : decode cX0_look 84 = .ok (.getfield 18, 3) := by decide +kernel
theorem dX0_look_87 : decode cX0_look 87 = .ok (.bipush 21, 2) := by decide +kernel
theorem dX0_look_89 : decode cX0_look 89 = .ok (.iload_n 2, 1) := by decide +kernel
theorem dX0_look_90 : decode cX0_look 90 = .ok (.iadd, 1) := by decide +kernel
theorem dX0_look_91 : decode cX0_look 91 = .ok (.iload_n 2, 1) := by decide +kernel
theorem dX0_look_92 : decode cX0_look 92 = .ok (.aload_n 1, 1) := by decide +kernel
theorem dX0_look_93 : decode cX0_look 93 = .ok (.getfield 78, 3) := by decide +kernel
theorem dX0_look_96 : decode cX0_look 96 = .ok (.if_icmp .ge 12, 3) := by decide +kernel
theorem dX0_look_99 : decode cX0_look 99 = .ok (.aload_n 1, 1) := by decide +kernel
theorem dX0_look_100 : decode cX0_look 100 = .ok (.getfield 81, 3) := by decide +kernel
theorem dX0_look_103 : decode cX0_look 103 = .ok (.iload_n 2, 1) := by decide +kernel
theorem dX0_look_104 : decode cX0_look 104 = .ok (.iaload, 1) := by decide +kernel
theorem dX0_look_105 : decode cX0_look 105 = .ok (.goto 4, 3) := by decide +kernel
theorem dX0_look_108 : decode cX0_look 108 = .ok (.iconst (-1), 1) := by decide +kernel
theorem dX0_look_109 : decode cX0_look 109 = .ok (.iastore, 1) := by decide +kernel
theorem dX0_look_110 : decode cX0_look 110 = .ok (.iinc 2 1, 3) := by decide +kernel
theorem dX0_look_113 : decode cX0_look 113 = .ok (.goto (-35), 3) := by decide +kernel
theorem dX0_look_116 : decode cX0_look 116 = .ok (.return_, 1) := by decide +kernel
theorem dX1_init_0 : decode cX1_init 0 = .ok (.aload_n 0, 1) := by decide +kernel
theorem dX1_init_1 : decode cX1_init 1 = .ok (.invokespecial 3, 3) := by decide +kernel
theorem dX1_init_4 : decode cX1_init 4 = .ok (.aload_n 0, 1) := by decide +kernel
theorem dX1_init_5 : decode cX1_init 5 = .ok (.new 9, 3) := by decide +kernel
theorem dX1_init_8 : decode cX1_init 8 = .ok (.dup, 1) := by decide +kernel
theorem dX1_init_9 : decode cX1_init 9 = .ok (.invokespecial 11, 3) := by decide +kernel
theorem dX1_init_12 : decode cX1_init 12 = .ok (.putfield 12, 3) := by decide +kernel
theorem dX1_init_15 : decode cX1_init 15 = .ok (.aload_n 0, 1) := by decide +kernel
theorem dX1_init_16 : decode cX1_init 16 = .ok (.bipush 25, 2) := by decide +kernel
theorem dX1_init_18 : decode cX1_init 18 = .ok (.newarray .int, 2) := by decide +kernel
theorem dX1_init_20 : decode cX1_init 20 = .ok (.putfield 18, 3) := by decide +kernel
theorem dX1_init_23 : decode cX1_init 23 = .ok (.return_, 1) := by decide +kernel
theorem dX1_casksOf_0 : decode cX1_casksOf 0 = .ok (.aload_n 1, 1) := by decide +kernel
theorem dX1_casksOf_1 : decode cX1_casksOf 1 = .ok (.invokevirtual 22, 3) := by decide +kernel
theorem dX1_casksOf_4 : decode cX1_casksOf 4 = .ok (.astore 4, 2) := by decide +kernel
theorem dX1_casksOf_6 : decode cX1_casksOf 6 = .ok (.aload 4, 2) := by decide +kernel
theorem dX1_casksOf_8 : decode cX1_casksOf 8 = .ok (.ifnonnull 6, 3) := by decide +kernel
theorem dX1_casksOf_11 : decode cX1_casksOf 11 = .ok (.bipush 20, 2) := by decide +kernel
theorem dX1_casksOf_13 : decode cX1_casksOf 13 = .ok (.ireturn, 1) := by decide +kernel
theorem dX1_casksOf_14 : decode cX1_casksOf 14 = .ok (.aload_n 0, 1) := by decide +kernel
theorem dX1_casksOf_15 : decode cX1_casksOf 15 = .ok (.getfield 18, 3) := by decide +kernel
theorem dX1_casksOf_18 : decode cX1_casksOf 18 = .ok (.iconst 0, 1) := by decide +kernel
theorem dX1_casksOf_19 : decode cX1_casksOf 19 = .ok (.iconst (-1), 1) := by decide +kernel
theorem dX1_casksOf_20 : decode cX1_casksOf 20 = .ok (.iastore, 1) := by decide +kernel
theorem dX1_casksOf_21 : decode cX1_casksOf 21 = .ok (.aload_n 0, 1) := by decide +kernel
theorem dX1_casksOf_22 : decode cX1_casksOf 22 = .ok (.getfield 18, 3) := by decide +kernel
theorem dX1_casksOf_25 : decode cX1_casksOf 25 = .ok (.iconst 1, 1) := by decide +kernel
theorem dX1_casksOf_26 : decode cX1_casksOf 26 = .ok (.iconst (-1), 1) := by decide +kernel
theorem dX1_casksOf_27 : decode cX1_casksOf 27 = .ok (.iastore, 1) := by decide +kernel
theorem dX1_casksOf_28 : decode cX1_casksOf 28 = .ok (.aload_n 0, 1) := by decide +kernel
theorem dX1_casksOf_29 : decode cX1_casksOf 29 = .ok (.getfield 18, 3) := by decide +kernel
theorem dX1_casksOf_32 : decode cX1_casksOf 32 = .ok (.iconst 2, 1) := by decide +kernel
theorem dX1_casksOf_33 : decode cX1_casksOf 33 = .ok (.iconst (-1), 1) := by decide +kernel
theorem dX1_casksOf_34 : decode cX1_casksOf 34 = .ok (.iastore, 1) := by decide +kernel
theorem dX1_casksOf_35 : decode cX1_casksOf 35 = .ok (.aload_n 0, 1) := by decide +kernel
theorem dX1_casksOf_36 : decode cX1_casksOf 36 = .ok (.getfield 18, 3) := by decide +kernel
theorem dX1_casksOf_39 : decode cX1_casksOf 39 = .ok (.iconst 3, 1) := by decide +kernel
theorem dX1_casksOf_40 : decode cX1_casksOf 40 = .ok (.iconst (-1), 1) := by decide +kernel
theorem dX1_casksOf_41 : decode cX1_casksOf 41 = .ok (.iastore, 1) := by decide +kernel
theorem dX1_casksOf_42 : decode cX1_casksOf 42 = .ok (.aload_n 0, 1) := by decide +kernel
theorem dX1_casksOf_43 : decode cX1_casksOf 43 = .ok (.getfield 18, 3) := by decide +kernel
theorem dX1_casksOf_46 : decode cX1_casksOf 46 = .ok (.iconst 4, 1) := by decide +kernel
theorem dX1_casksOf_47 : decode cX1_casksOf 47 = .ok (.iload_n 2, 1) := by decide +kernel
theorem dX1_casksOf_48 : decode cX1_casksOf 48 = .ok (.iastore, 1) := by decide +kernel
theorem dX1_casksOf_49 : decode cX1_casksOf 49 = .ok (.aload_n 0, 1) := by decide +kernel
theorem dX1_casksOf_50 : decode cX1_casksOf 50 = .ok (.getfield 18, 3) := by decide +kernel
theorem dX1_casksOf_53 : decode cX1_casksOf 53 = .ok (.iconst 5, 1) := by decide +kernel
theorem dX1_casksOf_54 : decode cX1_casksOf 54 = .ok (.aload_n 1, 1) := by decide +kernel
theorem dX1_casksOf_55 : decode cX1_casksOf 55 = .ok (.getfield 28, 3) := by decide +kernel
theorem dX1_casksOf_58 : decode cX1_casksOf 58 = .ok (.iload_n 2, 1) := by decide +kernel
theorem dX1_casksOf_59 : decode cX1_casksOf 59 = .ok (.iaload, 1) := by decide +kernel
theorem dX1_casksOf_60 : decode cX1_casksOf 60 = .ok (.iastore, 1) := by decide +kernel
theorem dX1_casksOf_61 : decode cX1_casksOf 61 = .ok (.aload_n 0, 1) := by decide +kernel
theorem dX1_casksOf_62 : decode cX1_casksOf 62 = .ok (.aload_n 1, 1) := by decide +kernel
theorem dX1_casksOf_63 : decode cX1_casksOf 63 = .ok (.iload_n 3, 1) := by decide +kernel
theorem dX1_casksOf_64 : decode cX1_casksOf 64 = .ok (.invokevirtual 31, 3) := by decide +kernel
theorem dX1_casksOf_67 : decode cX1_casksOf 67 = .ok (.aload_n 0, 1) := by decide +kernel
theorem dX1_casksOf_68 : decode cX1_casksOf 68 = .ok (.aload 4, 2) := by decide +kernel
theorem dX1_casksOf_70 : decode cX1_casksOf 70 = .ok (.bipush 13, 2) := by decide +kernel
theorem dX1_casksOf_72 : decode cX1_casksOf 72 = .ok (.invokevirtual 35, 3) := by decide +kernel
theorem dX1_casksOf_75 : decode cX1_casksOf 75 = .ok (.istore 5, 2) := by decide +kernel
theorem dX1_casksOf_77 : decode cX1_casksOf 77 = .ok (.iload 5, 2) := by decide +kernel
theorem dX1_casksOf_79 : decode cX1_casksOf 79 = .ok (.ldc 39, 2) := by decide +kernel
theorem dX1_casksOf_81 : decode cX1_casksOf 81 = .ok (.if_icmp .ne 8, 3) := by decide +kernel
theorem dX1_casksOf_84 : decode cX1_casksOf 84 = .ok (.bipush 20, 2) := by decide +kernel
theorem dX1_casksOf_86 : decode cX1_casksOf 86 = .ok (.goto 14, 3) := by decide +kernel
theorem dX1_casksOf_89 : decode cX1_casksOf 89 = .ok (.iconst 1, 1) := by decide +kernel
theorem dX1_casksOf_90 : decode cX1_casksOf 90 = .ok (.bipush 99, 2) := by decide +kernel
theorem dX1_casksOf_92 : decode cX1_casksOf 92 = .ok (.iload 5, 2) := by decide +kernel
theorem dX1_casksOf_94 : decode cX1_casksOf 94 = .ok (.invokestatic 40, 3) := by decide +kernel
theorem dX1_casksOf_97 : decode cX1_casksOf 97 = .ok (.invokestatic 46, 3) := by decide +kernel
theorem dX1_casksOf_100 : decode cX1_casksOf 100 = .ok (.ireturn, 1) := by decide +kernel
theorem dX1_eatenBy_0 : decode cX1_eatenBy 0 = .ok (.aload_n 1, 1) := by decide +kernel
theorem dX1_eatenBy_1 : decode cX1_eatenBy 1 = .ok (.invokevirtual 22, 3) := by decide +kernel
theorem dX1_eatenBy_4 : decode cX1_eatenBy 4 = .ok (.astore_n 3, 1) := by decide +kernel
theorem dX1_eatenBy_5 : decode cX1_eatenBy 5 = .ok (.aload_n 3, 1) := by decide +kernel
theorem dX1_eatenBy_6 : decode cX1_eatenBy 6 = .ok (.ifnonnull 5, 3) := by decide +kernel
theorem dX1_eatenBy_9 : decode cX1_eatenBy 9 = .ok (.iconst 5, 1) := by decide +kernel
theorem dX1_eatenBy_10 : decode cX1_eatenBy 10 = .ok (.ireturn, 1) := by decide +kernel
theorem dX1_eatenBy_11 : decode cX1_eatenBy 11 = .ok (.aload_n 0, 1) := by decide +kernel
theorem dX1_eatenBy_12 : decode cX1_eatenBy 12 = .ok (.aload_n 1, 1) := by decide +kernel
theorem dX1_eatenBy_13 : decode cX1_eatenBy 13 = .ok (.iload_n 2, 1) := by decide +kernel
theorem dX1_eatenBy_14 : decode cX1_eatenBy 14 = .ok (.aload_n 1, 1) := by decide +kernel
theorem dX1_eatenBy_15 : decode cX1_eatenBy 15 = .ok (.getfield 49, 3) := by decide +kernel
theorem dX1_eatenBy_18 : decode cX1_eatenBy 18 = .ok (.iload_n 2, 1) := by decide +kernel
theorem dX1_eatenBy_19 : decode cX1_eatenBy 19 = .ok (.iaload, 1) := by decide +kernel
theorem dX1_eatenBy_20 : decode cX1_eatenBy 20 = .ok (.invokevirtual 52, 3) := by decide +kernel
theorem dX1_eatenBy_23 : decode cX1_eatenBy 23 = .ok (.aload_n 0, 1) := by decide +kernel
theorem dX1_eatenBy_24 : decode cX1_eatenBy 24 = .ok (.aload_n 1, 1) := by decide +kernel
theorem dX1_eatenBy_25 : decode cX1_eatenBy 25 = .ok (.aload_n 1, 1) := by decide +kernel
theorem dX1_eatenBy_26 : decode cX1_eatenBy 26 = .ok (.invokevirtual 56, 3) := by decide +kernel
theorem dX1_eatenBy_29 : decode cX1_eatenBy 29 = .ok (.invokevirtual 31, 3) := by decide +kernel
theorem dX1_eatenBy_32 : decode cX1_eatenBy 32 = .ok (.aload_n 0, 1) := by decide +kernel
theorem dX1_eatenBy_33 : decode cX1_eatenBy 33 = .ok (.aload_n 3, 1) := by decide +kernel
theorem dX1_eatenBy_34 : decode cX1_eatenBy 34 = .ok (.bipush 14, 2) := by decide +kernel
theorem dX1_eatenBy_36 : decode cX1_eatenBy 36 = .ok (.invokevirtual 35, 3) := by decide +kernel
theorem dX1_eatenBy_39 : decode cX1_eatenBy 39 = .ok (.istore 4, 2) := by decide +kernel
theorem dX1_eatenBy_41 : decode cX1_eatenBy 41 = .ok (.iload 4, 2) := by decide +kernel
theorem dX1_eatenBy_43 : decode cX1_eatenBy 43 = .ok (.ldc 39, 2) := by decide +kernel
theorem dX1_eatenBy_45 : decode cX1_eatenBy 45 = .ok (.if_icmp .ne 7, 3) := by decide +kernel
theorem dX1_eatenBy_48 : decode cX1_eatenBy 48 = .ok (.iconst 5, 1) := by decide +kernel
theorem dX1_eatenBy_49 : decode cX1_eatenBy 49 = .ok (.goto 14, 3) := by decide +kernel
theorem dX1_eatenBy_52 : decode cX1_eatenBy 52 = .ok (.iconst 0, 1) := by decide +kernel
theorem dX1_eatenBy_53 : decode cX1_eatenBy 53 = .ok (.bipush 99, 2) := by decide +kernel
theorem dX1_eatenBy_55 : decode cX1_eatenBy 55 = .ok (.iload 4, 2) := by decide +kernel
theorem dX1_eatenBy_57 : decode cX1_eatenBy 57 = .ok (.invokestatic 40, 3) := by decide +kernel
theorem dX1_eatenBy_60 : decode cX1_eatenBy 60 = .ok (.invokestatic 46, 3) := by decide +kernel
theorem dX1_eatenBy_63 : decode cX1_eatenBy 63 = .ok (.ireturn, 1) := by decide +kernel
theorem dX1_runsOff_0 : decode cX1_runsOff 0 = .ok (.aload_n 1, 1) := by decide +kernel
theorem dX1_runsOff_1 : decode cX1_runsOff 1 = .ok (.invokevirtual 22, 3) := by decide +kernel
theorem dX1_runsOff_4 : decode cX1_runsOff 4 = .ok (.astore 5, 2) := by decide +kernel
theorem dX1_runsOff_6 : decode cX1_runsOff 6 = .ok (.aload 5, 2) := by decide +kernel
theorem dX1_runsOff_8 : decode cX1_runsOff 8 = .ok (.ifnonnull 5, 3) := by decide +kernel
theorem dX1_runsOff_11 : decode cX1_runsOff 11 = .ok (.iconst 0, 1) := by decide +kernel
theorem dX1_runsOff_12 : decode cX1_runsOff 12 = .ok (.ireturn, 1) := by decide +kernel
theorem dX1_runsOff_13 : decode cX1_runsOff 13 = .ok (.aload_n 0, 1) := by decide +kernel
theorem dX1_runsOff_14 : decode cX1_runsOff 14 = .ok (.aload_n 1, 1) := by decide +kernel
theorem dX1_runsOff_15 : decode cX1_runsOff 15 = .ok (.iload_n 2, 1) := by decide +kernel
theorem dX1_runsOff_16 : decode cX1_runsOff 16 = .ok (.iload_n 3, 1) := by decide +kernel
theorem dX1_runsOff_17 : decode cX1_runsOff 17 = .ok (.invokevirtual 52, 3) := by decide +kernel
theorem dX1_runsOff_20 : decode cX1_runsOff 20 = .ok (.aload_n 0, 1) := by decide +kernel
theorem dX1_runsOff_21 : decode cX1_runsOff 21 = .ok (.aload_n 1, 1) := by decide +kernel
theorem dX1_runsOff_22 : decode cX1_runsOff 22 = .ok (.iload 4, 2) := by decide +kernel
theorem dX1_runsOff_24 : decode cX1_runsOff 24 = .ok (.invokevirtual 31, 3) := by decide +kernel
theorem dX1_runsOff_27 : decode cX1_runsOff 27 = .ok (.aload_n 0, 1) := by decide +kernel
theorem dX1_runsOff_28 : decode cX1_runsOff 28 = .ok (.aload 5, 2) := by decide +kernel
theorem dX1_runsOff_30 : decode cX1_runsOff 30 = .ok (.bipush 15, 2) := by decide +kernel
theorem dX1_runsOff_32 : decode cX1_runsOff 32 = .ok (.invokevirtual 35, 3) := by decide +kernel
theorem dX1_runsOff_35 : decode cX1_runsOff 35 = .ok (.ldc 39, 2) := by decide +kernel
theorem dX1_runsOff_37 : decode cX1_runsOff 37 = .ok (.if_icmp .eq 7, 3) := by decide +kernel
theorem dX1_runsOff_40 : decode cX1_runsOff 40 = .ok (.iconst 1, 1) := by decide +kernel
theorem dX1_runsOff_41 : decode cX1_runsOff 41 = .ok (.goto 4, 3) := by decide +kernel
theorem dX1_runsOff_44 : decode cX1_runsOff 44 = .ok (.iconst 0, 1) := by decide +kernel
theorem dX1_runsOff_45 : decode cX1_runsOff 45 = .ok (.ireturn, 1) := by decide +kernel
theorem dX1_askAboutHand_0 : decode cX1_askAboutHand 0 = .ok (.aload_n 0, 1) := by decide +kernel
theorem dX1_askAboutHand_1 : decode cX1_askAboutHand 1 = .ok (.getfield 18, 3) := by decide +kernel
theorem dX1_askAboutHand_4 : decode cX1_askAboutHand 4 = .ok (.iconst 0, 1) := by decide +kernel
theorem dX1_askAboutHand_5 : decode cX1_askAboutHand 5 = .ok (.iload_n 2, 1) := by decide +kernel
theorem dX1_askAboutHand_6 : decode cX1_askAboutHand 6 = .ok (.iastore, 1) := by decide +kernel
theorem dX1_askAboutHand_7 : decode cX1_askAboutHand 7 = .ok (.aload_n 0, 1) := by decide +kernel
theorem dX1_askAboutHand_8 : decode cX1_askAboutHand 8 = .ok (.getfield 18, 3) := by decide +kernel
theorem dX1_askAboutHand_11 : decode cX1_askAboutHand 11 = .ok (.iconst 1, 1) := by decide +kernel
theorem dX1_askAboutHand_12 : decode cX1_askAboutHand 12 = .ok (.iload_n 3, 1) := by decide +kernel
theorem dX1_askAboutHand_13 : decode cX1_askAboutHand 13 = .ok (.iastore, 1) := by decide +kernel
theorem dX1_askAboutHand_14 : decode cX1_askAboutHand 14 = .ok (.aload_n 0, 1) := by decide +kernel
theorem dX1_askAboutHand_15 : decode cX1_askAboutHand 15 = .ok (.getfield 18, 3) := by decide +kernel
theorem dX1_askAboutHand_18 : decode cX1_askAboutHand 18 = .ok (.iconst 2, 1) := by decide +kernel
theorem dX1_askAboutHand_19 : decode cX1_askAboutHand 19 = .ok (.aload_n 1, 1) := by decide +kernel
theorem dX1_askAboutHand_20 : decode cX1_askAboutHand 20 = .ok (.getfield 60, 3) := by decide +kernel
theorem dX1_askAboutHand_23 : decode cX1_askAboutHand 23 = .ok (.iload_n 2, 1) := by decide +kernel
theorem dX1_askAboutHand_24 : decode cX1_askAboutHand 24 = .ok (.iaload, 1) := by decide +kernel
theorem dX1_askAboutHand_25 : decode cX1_askAboutHand 25 = .ok (.iastore, 1) := by decide +kernel
theorem dX1_askAboutHand_26 : decode cX1_askAboutHand 26 = .ok (.aload_n 0, 1) := by decide +kernel
theorem dX1_askAboutHand_27 : decode cX1_askAboutHand 27 = .ok (.getfield 18, 3) := by decide +kernel
theorem dX1_askAboutHand_30 : decode cX1_askAboutHand 30 = .ok (.iconst 3, 1) := by decide +kernel
theorem dX1_askAboutHand_31 : decode cX1_askAboutHand 31 = .ok (.aload_n 1, 1) := by decide +kernel
theorem dX1_askAboutHand_32 : decode cX1_askAboutHand 32 = .ok (.getfield 63, 3) := by decide +kernel
theorem dX1_askAboutHand_35 : decode cX1_askAboutHand 35 = .ok (.iconst 0, 1) := by decide +kernel
theorem dX1_askAboutHand_36 : decode cX1_askAboutHand 36 = .ok (.iaload, 1) := by decide +kernel
theorem dX1_askAboutHand_37 : decode cX1_askAboutHand 37 = .ok (.aload_n 1, 1) := by decide +kernel
theorem dX1_askAboutHand_38 : decode cX1_askAboutHand 38 = .ok (.getfield 66, 3) := by decide +kernel
theorem dX1_askAboutHand_41 : decode cX1_askAboutHand 41 = .ok (.iload_n 2, 1) := by decide +kernel
theorem dX1_askAboutHand_42 : decode cX1_askAboutHand 42 = .ok (.iaload, 1) := by decide +kernel
theorem dX1_askAboutHand_43 : decode cX1_askAboutHand 43 = .ok (.isub, 1) := by decide +kernel
theorem dX1_askAboutHand_44 : decode cX1_askAboutHand 44 = .ok (.iastore, 1) := by decide +kernel
theorem dX1_askAboutHand_45 : decode cX1_askAboutHand 45 = .ok (.aload_n 0, 1) := by decide +kernel
theorem dX1_askAboutHand_46 : decode cX1_askAboutHand 46 = .ok (.getfield 18, 3) := by decide +kernel
theorem dX1_askAboutHand_49 : decode cX1_askAboutHand 49 = .ok (.iconst 4, 1) := by decide +kernel
theorem dX1_askAboutHand_50 : decode cX1_askAboutHand 50 = .ok (.iconst (-1), 1) := by decide +kernel
theorem dX1_askAboutHand_51 : decode cX1_askAboutHand 51 = .ok (.iastore, 1) := by decide +kernel
theorem dX1_askAboutHand_52 : decode cX1_askAboutHand 52 = .ok (.aload_n 0, 1) := by decide +kernel
theorem dX1_askAboutHand_53 : decode cX1_askAboutHand 53 = .ok (.getfield 18, 3) := by decide +kernel
theorem dX1_askAboutHand_56 : decode cX1_askAboutHand 56 = .ok (.iconst 5, 1) := by decide +kernel
theorem dX1_askAboutHand_57 : decode cX1_askAboutHand 57 = .ok (.iconst (-1), 1) := by decide +kernel
theorem dX1_askAboutHand_58 : decode cX1_askAboutHand 58 = .ok (.iastore, 1) := by decide +kernel
theorem dX1_askAboutHand_59 : decode cX1_askAboutHand 59 = .ok (.return_, 1) := by decide +kernel
theorem dX1_askAboutShip_0 : decode cX1_askAboutShip 0 = .ok (.aload_n 0, 1) := by decide +kernel
theorem dX1_askAboutShip_1 : decode cX1_askAboutShip 1 = .ok (.getfield 18, 3) := by decide +kernel
theorem dX1_askAboutShip_4 : decode cX1_askAboutShip 4 = .ok (.bipush 6, 2) := by decide +kernel
theorem dX1_askAboutShip_6 : decode cX1_askAboutShip 6 = .ok (.aload_n 1, 1) := by decide +kernel
theorem dX1_askAboutShip_7 : decode cX1_askAboutShip 7 = .ok (.getfield 69, 3) := by decide +kernel
theorem dX1_askAboutShip_10 : decode cX1_askAboutShip 10 = .ok (.iastore, 1) := by decide +kernel
theorem dX1_askAboutShip_11 : decode cX1_askAboutShip 11 = .ok (.aload_n 0, 1) := by decide +kernel
theorem dX1_askAboutShip_12 : decode cX1_askAboutShip 12 = .ok (.getfield 18, 3) := by decide +kernel
theorem dX1_askAboutShip_15 : decode cX1_askAboutShip 15 = .ok (.bipush 7, 2) := by decide +kernel
theorem dX1_askAboutShip_17 : decode cX1_askAboutShip 17 = .ok (.iload_n 2, 1) := by decide +kernel
theorem dX1_askAboutShip_18 : decode cX1_askAboutShip 18 = .ok (.iastore, 1) := by decide +kernel
theorem dX1_askAboutShip_19 : decode cX1_askAboutShip 19 = .ok (.aload_n 0, 1) := by decide +kernel
theorem dX1_askAboutShip_20 : decode cX1_askAboutShip 20 = .ok (.getfield 18, 3) := by decide +kernel
theorem dX1_askAboutShip_23 : decode cX1_askAboutShip 23 = .ok (.bipush 8, 2) := by decide +kernel
theorem dX1_askAboutShip_25 : decode cX1_askAboutShip 25 = .ok (.aload_n 1, 1) := by decide +kernel
theorem dX1_askAboutShip_26 : decode cX1_askAboutShip 26 = .ok (.getfield 63, 3) := by decide +kernel
theorem dX1_askAboutShip_29 : decode cX1_askAboutShip 29 = .ok (.iconst 0, 1) := by decide +kernel
theorem dX1_askAboutShip_30 : decode cX1_askAboutShip 30 = .ok (.iaload, 1) := by decide +kernel
theorem dX1_askAboutShip_31 : decode cX1_askAboutShip 31 = .ok (.iastore, 1) := by decide +kernel
theorem dX1_askAboutShip_32 : decode cX1_askAboutShip 32 = .ok (.aload_n 0, 1) := by decide +kernel
theorem dX1_askAboutShip_33 : decode cX1_askAboutShip 33 = .ok (.getfield 18, 3) := by decide +kernel
theorem dX1_askAboutShip_36 : decode cX1_askAboutShip 36 = .ok (.bipush 9, 2) := by decide +kernel
theorem dX1_askAboutShip_38 : decode cX1_askAboutShip 38 = .ok (.aload_n 1, 1) := by decide +kernel
theorem dX1_askAboutShip_39 : decode cX1_askAboutShip 39 = .ok (.getfield 63, 3) := by decide +kernel
theorem dX1_askAboutShip_42 : decode cX1_askAboutShip 42 = .ok (.iconst 2, 1) := by decide +kernel
theorem dX1_askAboutShip_43 : decode cX1_askAboutShip 43 = .ok (.iaload, 1) := by decide +kernel
theorem dX1_askAboutShip_44 : decode cX1_askAboutShip 44 = .ok (.iastore, 1) := by decide +kernel
theorem dX1_askAboutShip_45 : decode cX1_askAboutShip 45 = .ok (.return_, 1) := by decide +kernel
theorem dX1_lastTold_0 : decode cX1_lastTold 0 = .ok (.aload_n 1, 1) := by decide +kernel
theorem dX1_lastTold_1 : decode cX1_lastTold 1 = .ok (.getfield 73, 3) := by decide +kernel
theorem dX1_lastTold_4 : decode cX1_lastTold 4 = .ok (.iconst 1, 1) := by decide +kernel
theorem dX1_lastTold_5 : decode cX1_lastTold 5 = .ok (.isub, 1) := by decide +kernel
theorem dX1_lastTold_6 : decode cX1_lastTold 6 = .ok (.istore_n 3, 1) := by decide +kernel
theorem dX1_lastTold_7 : decode cX1_lastTold 7 = .ok (.iload_n 3, 1) := by decide +kernel
theorem dX1_lastTold_8 : decode cX1_lastTold 8 = .ok (.ifCond .lt 107, 3) := by decide +kernel
theorem dX1_lastTold_11 : decode cX1_lastTold 11 = .ok (.aload_n 1, 1) := by decide +kernel
theorem dX1_lastTold_12 : decode cX1_lastTold 12 = .ok (.iload_n 3, 1) := by decide +kernel
theorem dX1_lastTold_13 : decode cX1_lastTold 13 = .ok (.iconst 0, 1) := by decide +kernel
theorem dX1_lastTold_14 : decode cX1_lastTold 14 = .ok (.invokevirtual 78, 3) := by decide +kernel
theorem dX1_lastTold_17 : decode cX1_lastTold 17 = .ok (.iload_n 2, 1) := by decide +kernel
theorem dX1_lastTold_18 : decode cX1_lastTold 18 = .ok (.if_icmp .eq 6, 3) := by decide +kernel
theorem dX1_lastTold_21 : decode cX1_lastTold 21 = .ok (.goto 88, 3) := by decide +kernel
theorem dX1_lastTold_24 : decode cX1_lastTold 24 = .ok (.aload_n 1, 1) := by decide +kernel
theorem dX1_lastTold_25 : decode cX1_lastTold 25 = .ok (.iload_n 3, 1) := by decide +kernel
theorem dX1_lastTold_26 : decode cX1_lastTold 26 = .ok (.iconst 3, 1) := by decide +kernel
theorem dX1_lastTold_27 : decode cX1_lastTold 27 = .ok (.invokevirtual 78, 3) := by decide +kernel
theorem dX1_lastTold_30 : decode cX1_lastTold 30 = .ok (.istore 4, 2) := by decide +kernel
theorem dX1_lastTold_32 : decode cX1_lastTold 32 = .ok (.iload 4, 2) := by decide +kernel
theorem dX1_lastTold_34 : decode cX1_lastTold 34 = .ok (.iconst (-1), 1) := by decide +kernel
theorem dX1_lastTold_35 : decode cX1_lastTold 35 = .ok (.if_icmp .eq 27, 3) := by decide +kernel
theorem dX1_lastTold_38 : decode cX1_lastTold 38 = .ok (.aload_n 0, 1) := by decide +kernel
theorem dX1_lastTold_39 : decode cX1_lastTold 39 = .ok (.getfield 12, 3) := by decide +kernel
theorem dX1_lastTold_42 : decode cX1_lastTold 42 = .ok (.aload_n 1, 1) := by decide +kernel
theorem dX1_lastTold_43 : decode cX1_lastTold 43 = .ok (.getfield 81, 3) := by decide +kernel
theorem dX1_lastTold_46 : decode cX1_lastTold 46 = .ok (.iload 4, 2) := by decide +kernel
theorem dX1_lastTold_48 : decode cX1_lastTold 48 = .ok (.aload_n 0, 1) := by decide +kernel
theorem dX1_lastTold_49 : decode cX1_lastTold 49 = .ok (.getfield 18, 3) := by decide +kernel
theorem dX1_lastTold_52 : decode cX1_lastTold 52 = .ok (.invokevirtual 84, 3) := by decide +kernel
theorem dX1_lastTold_55 : decode cX1_lastTold 55 = .ok (.iconst 1, 1) := by decide +kernel
theorem dX1_lastTold_56 : decode cX1_lastTold 56 = .ok (.if_icmp .eq 6, 3) := by decide +kernel
theorem dX1_lastTold_59 : decode cX1_lastTold 59 = .ok (.goto 50, 3) := by decide +kernel
theorem dX1_lastTold_62 : decode cX1_lastTold 62 = .ok (.aload_n 1, 1) := by decide +kernel
theorem dX1_lastTold_63 : decode cX1_lastTold 63 = .ok (.iload_n 3, 1) := by decide +kernel
theorem dX1_lastTold_64 : decode cX1_lastTold 64 = .ok (.iconst 1, 1) := by decide +kernel
theorem dX1_lastTold_65 : decode cX1_lastTold 65 = .ok (.invokevirtual 78, 3) := by decide +kernel
theorem dX1_lastTold_68 : decode cX1_lastTold 68 = .ok (.istore 5, 2) := by decide +kernel
theorem dX1_lastTold_70 : decode cX1_lastTold 70 = .ok (.iload 5, 2) := by decide +kernel
theorem dX1_lastTold_72 : decode cX1_lastTold 72 = .ok (.iconst (-1), 1) := by decide +kernel
theorem dX1_lastTold_73 : decode cX1_lastTold 73 = .ok (.if_icmp .ne 7, 3) := by decide +kernel
theorem dX1_lastTold_76 : decode cX1_lastTold 76 = .ok (.iconst 1, 1) := by decide +kernel
theorem dX1_lastTold_77 : decode cX1_lastTold 77 = .ok (.goto 20, 3) := by decide +kernel
theorem dX1_lastTold_80 : decode cX1_lastTold 80 = .ok (.aload_n 0, 1) := by decide +kernel
theorem dX1_lastTold_81 : decode cX1_lastTold 81 = .ok (.getfield 12, 3) := by decide +kernel
theorem dX1_lastTold_84 : decode cX1_lastTold 84 = .ok (.aload_n 1, 1) := by decide +kernel
theorem dX1_lastTold_85 : decode cX1_lastTold 85 = .ok (.getfield 81, 3) := by decide +kernel
theorem dX1_lastTold_88 : decode cX1_lastTold 88 = .ok (.iload 5, 2) := by decide +kernel
theorem dX1_lastTold_90 : decode cX1_lastTold 90 = .ok (.aload_n 0, 1) := by decide +kernel
theorem dX1_lastTold_91 : decode cX1_lastTold 91 = .ok (.getfield 18, 3) := by decide +kernel
theorem dX1_lastTold_94 : decode cX1_lastTold 94 = .ok (.invokevirtual 84, 3) := by decide +kernel
theorem dX1_lastTold_97 : decode cX1_lastTold 97 = .ok (.istore 6, 2) := by decide +kernel
theorem dX1_lastTold_99 : decode cX1_lastTold 99 = .ok (.iload 6, 2) := by decide +kernel
theorem dX1_lastTold_101 : decode cX1_lastTold 101 = .ok (.ldc 39, 2) := by decide +kernel
theorem dX1_lastTold_103 : decode cX1_lastTold 103 = .ok (.if_icmp .eq 6, 3) := by decide +kernel
theorem dX1_lastTold_106 : decode cX1_lastTold 106 = .ok (.iload 6, 2) := by decide +kernel
theorem dX1_lastTold_108 : decode cX1_lastTold 108 = .ok (.ireturn, 1) := by decide +kernel
theorem dX1_lastTold_109 : decode cX1_lastTold 109 = .ok (.iinc 3 (-1), 3) := by decide +kernel
theorem dX1_lastTold_112 : decode cX1_lastTold 112 = .ok (.goto (-105), 3) := by decide +kernel
theorem dX1_lastTold_115 : decode cX1_lastTold 115 = .ok (.ldc 39, 2) := by decide +kernel
theorem dX1_lastTold_117 : decode cX1_lastTold 117 = .ok (.ireturn, 1) := by decide +kernel
theorem dX2_init_0 : decode cX2_init 0 = .ok (.aload_n 0, 1) := by decide +kernel
theorem dX2_init_1 : decode cX2_init 1 = .ok (.invokespecial 3, 3) := by decide +kernel
theorem dX2_init_4 : decode cX2_init 4 = .ok (.aload_n 0, 1) := by decide +kernel
theorem dX2_init_5 : decode cX2_init 5 = .ok (.bipush 17, 2) := by decide +kernel
theorem dX2_init_7 : decode cX2_init 7 = .ok (.newarray .int, 2) := by decide +kernel
theorem dX2_init_9 : decode cX2_init 9 = .ok (.putfield 11, 3) := by decide +kernel
theorem dX2_init_12 : decode cX2_init 12 = .ok (.aload_n 0, 1) := by decide +kernel
theorem dX2_init_13 : decode cX2_init 13 = .ok (.sipush 272, 3) := by decide +kernel
theorem dX2_init_16 : decode cX2_init 16 = .ok (.newarray .int, 2) := by decide +kernel
theorem dX2_init_18 : decode cX2_init 18 = .ok (.putfield 15, 3) := by decide +kernel
theorem dX2_init_21 : decode cX2_init 21 = .ok (.return_, 1) := by decide +kernel
theorem dX2_clear_0 : decode cX2_clear 0 = .ok (.aload_n 0, 1) := by decide +kernel
theorem dX2_clear_1 : decode cX2_clear 1 = .ok (.iconst 0, 1) := by decide +kernel
theorem dX2_clear_2 : decode cX2_clear 2 = .ok (.putfield 18, 3) := by decide +kernel
theorem dX2_clear_5 : decode cX2_clear 5 = .ok (.return_, 1) := by decide +kernel
theorem dX2_become_0 : decode cX2_become 0 = .ok (.aload_n 1, 1) := by decide +kernel
theorem dX2_become_1 : decode cX2_become 1 = .ok (.getfield 11, 3) := by decide +kernel
theorem dX2_become_4 : decode cX2_become 4 = .ok (.iconst 0, 1) := by decide +kernel
theorem dX2_become_5 : decode cX2_become 5 = .ok (.aload_n 0, 1) := by decide +kernel
theorem dX2_become_6 : decode cX2_become 6 = .ok (.getfield 11, 3) := by decide +kernel
theorem dX2_become_9 : decode cX2_become 9 = .ok (.iconst 0, 1) := by decide +kernel
theorem dX2_become_10 : decode cX2_become 10 = .ok (.bipush 17, 2) := by decide +kernel
theorem dX2_become_12 : decode cX2_become 12 = .ok (.invokestatic 22, 3) := by decide +kernel
theorem dX2_become_15 : decode cX2_become 15 = .ok (.aload_n 1, 1) := by decide +kernel
theorem dX2_become_16 : decode cX2_become 16 = .ok (.getfield 15, 3) := by decide +kernel
theorem dX2_become_19 : decode cX2_become 19 = .ok (.iconst 0, 1) := by decide +kernel
theorem dX2_become_20 : decode cX2_become 20 = .ok (.aload_n 0, 1) := by decide +kernel
theorem dX2_become_21 : decode cX2_become 21 = .ok (.getfield 15, 3) := by decide +kernel
theorem dX2_become_24 : decode cX2_become 24 = .ok (.iconst 0, 1) := by decide +kernel
theorem dX2_become_25 : decode cX2_become 25 = .ok (.sipush 272, 3) := by decide +kernel
theorem dX2_become_28 : decode cX2_become 28 = .ok (.invokestatic 22, 3) := by decide +kernel
theorem dX2_become_31 : decode cX2_become 31 = .ok (.aload_n 0, 1) := by decide +kernel
theorem dX2_become_32 : decode cX2_become 32 = .ok (.aload_n 1, 1) := by decide +kernel
theorem dX2_become_33 : decode cX2_become 33 = .ok (.getfield 28, 3) := by decide +kernel
theorem dX2_become_36 : decode cX2_become 36 = .ok (.putfield 28, 3) := by decide +kernel
theorem dX2_become_39 : decode cX2_become 39 = .ok (.aload_n 0, 1) := by decide +kernel
theorem dX2_become_40 : decode cX2_become 40 = .ok (.aload_n 1, 1) := by decide +kernel
theorem dX2_become_41 : decode cX2_become 41 = .ok (.getfield 18, 3) := by decide +kernel
theorem dX2_become_44 : decode cX2_become 44 = .ok (.putfield 18, 3) := by decide +kernel
theorem dX2_become_47 : decode cX2_become 47 = .ok (.return_, 1) := by decide +kernel
theorem dX2_note_0 : decode cX2_note 0 = .ok (.aload_n 0, 1) := by decide +kernel
theorem dX2_note_1 : decode cX2_note 1 = .ok (.getfield 28, 3) := by decide +kernel
theorem dX2_note_4 : decode cX2_note 4 = .ok (.aload_n 0, 1) := by decide +kernel
theorem dX2_note_5 : decode cX2_note 5 = .ok (.getfield 18, 3) := by decide +kernel
theorem dX2_note_8 : decode cX2_note 8 = .ok (.iadd, 1) := by decide +kernel
theorem dX2_note_9 : decode cX2_note 9 = .ok (.bipush 17, 2) := by decide +kernel
theorem dX2_note_11 : decode cX2_note 11 = .ok (.irem, 1) := by decide +kernel
theorem dX2_note_12 : decode cX2_note 12 = .ok (.bipush 16, 2) := by decide +kernel
theorem dX2_note_14 : decode cX2_note 14 = .ok (.imul, 1) := by decide +kernel
theorem dX2_note_15 : decode cX2_note 15 = .ok (.istore_n 2, 1) := by decide +kernel
theorem dX2_note_16 : decode cX2_note 16 = .ok (.aload_n 1, 1) := by decide +kernel
theorem dX2_note_17 : decode cX2_note 17 = .ok (.getfield 31, 3) := by decide +kernel
theorem dX2_note_20 : decode cX2_note 20 = .ok (.iconst 0, 1) := by decide +kernel
theorem dX2_note_21 : decode cX2_note 21 = .ok (.aload_n 0, 1) := by decide +kernel
theorem dX2_note_22 : decode cX2_note 22 = .ok (.getfield 15, 3) := by decide +kernel
theorem dX2_note_25 : decode cX2_note 25 = .ok (.iload_n 2, 1) := by decide +kernel
theorem dX2_note_26 : decode cX2_note 26 = .ok (.bipush 8, 2) := by decide +kernel
theorem dX2_note_28 : decode cX2_note 28 = .ok (.invokestatic 22, 3) := by decide +kernel
theorem dX2_note_31 : decode cX2_note 31 = .ok (.aload_n 1, 1) := by decide +kernel
theorem dX2_note_32 : decode cX2_note 32 = .ok (.getfield 36, 3) := by decide +kernel
theorem dX2_note_35 : decode cX2_note 35 = .ok (.iconst 0, 1) := by decide +kernel
theorem dX2_note_36 : decode cX2_note 36 = .ok (.aload_n 0, 1) := by decide +kernel
theorem dX2_note_37 : decode cX2_note 37 = .ok (.getfield 15, 3) := by decide +kernel
theorem dX2_note_40 : decode cX2_note 40 = .ok (.iload_n 2, 1) := by decide +kernel
theorem dX2_note_41 : decode cX2_note 41 = .ok (.bipush 8, 2) := by decide +kernel
theorem dX2_note_43 : decode cX2_note 43 = .ok (.iadd, 1) := by decide +kernel
theorem dX2_note_44 : decode cX2_note 44 = .ok (.iconst 4, 1) := by decide +kernel
theorem dX2_note_45 : decode cX2_note 45 = .ok (.invokestatic 22, 3) := by decide +kernel
theorem dX2_note_48 : decode cX2_note 48 = .ok (.iload_n 2, 1) := by decide +kernel
theorem dX2_note_49 : decode cX2_note 49 = .ok (.bipush 8, 2) := by decide +kernel
theorem dX2_note_51 : decode cX2_note 51 = .ok (.iadd, 1) := by decide +kernel
theorem dX2_note_52 : decode cX2_note 52 = .ok (.iconst 4, 1) := by decide +kernel
theorem dX2_note_53 : decode cX2_note 53 = .ok (.iadd, 1) := by decide +kernel
theorem dX2_note_54 : decode cX2_note 54 = .ok (.istore_n 3, 1) := by decide +kernel
theorem dX2_note_55 : decode cX2_note 55 = .ok (.aload_n 0, 1) := by decide +kernel
theorem dX2_note_56 : decode cX2_note 56 = .ok (.getfield 15, 3) := by decide +kernel
theorem dX2_note_59 : decode cX2_note 59 = .ok (.iload_n 3, 1) := by decide +kernel
theorem dX2_note_60 : decode cX2_note 60 = .ok (.aload_n 1, 1) := by decide +kernel
theorem dX2_note_61 : decode cX2_note 61 = .ok (.getfield 39, 3) := by decide +kernel
theorem dX2_note_64 : decode cX2_note 64 = .ok (.iastore, 1) := by decide +kernel
theorem dX2_note_65 : decode cX2_note 65 = .ok (.aload_n 0, 1) := by decide +kernel
theorem dX2_note_66 : decode cX2_note 66 = .ok (.getfield 15, 3) := by decide +kernel
theorem dX2_note_69 : decode cX2_note 69 = .ok (.iload_n 3, 1) := by decide +kernel
theorem dX2_note_70 : decode cX2_note 70 = .ok (.iconst 1, 1) := by decide +kernel
theorem dX2_note_71 : decode cX2_note 71 = .ok (.iadd, 1) := by decide +kernel
theorem dX2_note_72 : decode cX2_note 72 = .ok (.aload_n 1, 1) := by decide +kernel
theorem dX2_note_73 : decode cX2_note 73 = .ok (.getfield 42, 3) := by decide +kernel
theorem dX2_note_76 : decode cX2_note 76 = .ok (.iastore, 1) := by decide +kernel
theorem dX2_note_77 : decode cX2_note 77 = .ok (.aload_n 0, 1) := by decide +kernel
theorem dX2_note_78 : decode cX2_note 78 = .ok (.getfield 15, 3) := by decide +kernel
theorem dX2_note_81 : decode cX2_note 81 = .ok (.iload_n 3, 1) := by decide +kernel
theorem dX2_note_82 : decode cX2_note 82 = .ok (.iconst 2, 1) := by decide +kernel
theorem dX2_note_83 : decode cX2_note 83 = .ok (.iadd, 1) := by decide +kernel
theorem dX2_note_84 : decode cX2_note 84 = .ok (.aload_n 1, 1) := by decide +kernel
theorem dX2_note_85 : decode cX2_note 85 = .ok (.getfield 45, 3) := by decide +kernel
theorem dX2_note_88 : decode cX2_note 88 = .ok (.iastore, 1) := by decide +kernel
theorem dX2_note_89 : decode cX2_note 89 = .ok (.aload_n 0, 1) := by decide +kernel
theorem dX2_note_90 : decode cX2_note 90 = .ok (.getfield 15, 3) := by decide +kernel
theorem dX2_note_93 : decode cX2_note 93 = .ok (.iload_n 3, 1) := by decide +kernel
theorem dX2_note_94 : decode cX2_note 94 = .ok (.iconst 3, 1) := by decide +kernel
theorem dX2_note_95 : decode cX2_note 95 = .ok (.iadd, 1) := by decide +kernel
theorem dX2_note_96 : decode cX2_note 96 = .ok (.aload_n 1, 1) := by decide +kernel
theorem dX2_note_97 : decode cX2_note 97 = .ok (.getfield 48, 3) := by decide +kernel
theorem dX2_note_100 : decode cX2_note 100 = .ok (.iconst 0, 1) := by decide +kernel
theorem dX2_note_101 : decode cX2_note 101 = .ok (.iaload, 1) := by decide +kernel
theorem dX2_note_102 : decode cX2_note 102 = .ok (.iastore, 1) := by decide +kernel
theorem dX2_note_103 : decode cX2_note 103 = .ok (.return_, 1) := by decide +kernel
theorem dX2_keepNoted_0 : decode cX2_keepNoted 0 = .ok (.aload_n 0, 1) := by decide +kernel
theorem dX2_keepNoted_1 : decode cX2_keepNoted 1 = .ok (.getfield 11, 3) := by decide +kernel
theorem dX2_keepNoted_4 : decode cX2_keepNoted 4 = .ok (.aload_n 0, 1) := by decide +kernel
theorem dX2_keepNoted_5 : decode cX2_keepNoted 5 = .ok (.getfield 28, 3) := by decide +kernel
theorem dX2_keepNoted_8 : decode cX2_keepNoted 8 = .ok (.aload_n 0, 1) := by decide +kernel
theorem dX2_keepNoted_9 : decode cX2_keepNoted 9 = .ok (.getfield 18, 3) := by decide +kernel
theorem dX2_keepNoted_12 : decode cX2_keepNoted 12 = .ok (.iadd, 1) := by decide +kernel
theorem dX2_keepNoted_13 : decode cX2_keepNoted 13 = .ok (.bipush 17, 2) := by decide +kernel
theorem dX2_keepNoted_15 : decode cX2_keepNoted 15 = .ok (.irem, 1) := by decide +kernel
theorem dX2_keepNoted_16 : decode cX2_keepNoted 16 = .ok (.iload_n 1, 1) := by decide +kernel
theorem dX2_keepNoted_17 : decode cX2_keepNoted 17 = .ok (.iastore, 1) := by decide +kernel
theorem dX2_keepNoted_18 : decode cX2_keepNoted 18 = .ok (.aload_n 0, 1) := by decide +kernel
theorem dX2_keepNoted_19 : decode cX2_keepNoted 19 = .ok (.getfield 18, 3) := by decide +kernel
theorem dX2_keepNoted_22 : decode cX2_keepNoted 22 = .ok (.bipush 16, 2) := by decide +kernel
theorem dX2_keepNoted_24 : decode cX2_keepNoted 24 = .ok (.if_icmp .ge 16, 3) := by decide +kernel
theorem dX2_keepNoted_27 : decode cX2_keepNoted 27 = .ok (.aload_n 0, 1) := by decide +kernel
theorem dX2_keepNoted_28 : decode cX2_keepNoted 28 = .ok (.dup, 1) := by decide +kernel
theorem dX2_keepNoted_29 : decode cX2_keepNoted 29 = .ok (.getfield 18, 3) := by decide +kernel
theorem dX2_keepNoted_32 : decode cX2_keepNoted 32 = .ok (.iconst 1, 1) := by decide +kernel
theorem dX2_keepNoted_33 : decode cX2_keepNoted 33 = .ok (.iadd, 1) := by decide +kernel
theorem dX2_keepNoted_34 : decode cX2_keepNoted 34 = .ok (.putfield 18, 3) := by decide +kernel
theorem dX2_keepNoted_37 : decode cX2_keepNoted 37 = .ok (.goto 16, 3) := by decide +kernel
theorem dX2_keepNoted_40 : decode cX2_keepNoted 40 = .ok (.aload_n 0, 1) := by decide +kernel
theorem dX2_keepNoted_41 : decode cX2_keepNoted 41 = .ok (.aload_n 0, 1) := by decide +kernel
theorem dX2_keepNoted_42 : decode cX2_keepNoted 42 = .ok (.getfield 28, 3) := by decide +kernel
theorem dX2_keepNoted_45 : decode cX2_keepNoted 45 = .ok (.iconst 1, 1) := by decide +kernel
theorem dX2_keepNoted_46 : decode cX2_keepNoted 46 = .ok (.iadd, 1) := by decide +kernel
theorem dX2_keepNoted_47 : decode cX2_keepNoted 47 = .ok (.bipush 17, 2) := by decide +kernel
theorem dX2_keepNoted_49 : decode cX2_keepNoted 49 = .ok (.irem, 1) := by decide +kernel
theorem dX2_keepNoted_50 : decode cX2_keepNoted 50 = .ok (.putfield 28, 3) := by decide +kernel
theorem dX2_keepNoted_53 : decode cX2_keepNoted 53 = .ok (.return_, 1) := by decide +kernel
theorem dX2_takeBack_0 : decode cX2_takeBack 0 = .ok (.aload_n 0, 1) := by decide +kernel
theorem dX2_takeBack_1 : decode cX2_takeBack 1 = .ok (.getfield 18, 3) := by decide +kernel
theorem dX2_takeBack_4 : decode cX2_takeBack 4 = .ok (.ifCond .ne 6, 3) := by decide +kernel
theorem dX2_takeBack_7 : decode cX2_takeBack 7 = .ok (.bipush (-3), 2) := by decide +kernel
theorem dX2_takeBack_9 : decode cX2_takeBack 9 = .ok (.ireturn, 1) := by decide +kernel
theorem dX2_takeBack_10 : decode cX2_takeBack 10 = .ok (.aload_n 0, 1) := by decide +kernel
theorem dX2_takeBack_11 : decode cX2_takeBack 11 = .ok (.dup, 1) := by decide +kernel
theorem dX2_takeBack_12 : decode cX2_takeBack 12 = .ok (.getfield 18, 3) := by decide +kernel
theorem dX2_takeBack_15 : decode cX2_takeBack 15 = .ok (.iconst 1, 1) := by decide +kernel
theorem dX2_takeBack_16 : decode cX2_takeBack 16 = .ok (.isub, 1) := by decide +kernel
theorem dX2_takeBack_17 : decode cX2_takeBack 17 = .ok (.putfield 18, 3) := by decide +kernel
theorem dX2_takeBack_20 : decode cX2_takeBack 20 = .ok (.aload_n 0, 1) := by decide +kernel
theorem dX2_takeBack_21 : decode cX2_takeBack 21 = .ok (.getfield 28, 3) := by decide +kernel
theorem dX2_takeBack_24 : decode cX2_takeBack 24 = .ok (.aload_n 0, 1) := by decide +kernel
theorem dX2_takeBack_25 : decode cX2_takeBack 25 = .ok (.getfield 18, 3) := by decide +kernel
theorem dX2_takeBack_28 : decode cX2_takeBack 28 = .ok (.iadd, 1) := by decide +kernel
theorem dX2_takeBack_29 : decode cX2_takeBack 29 = .ok (.bipush 17, 2) := by decide +kernel
theorem dX2_takeBack_31 : decode cX2_takeBack 31 = .ok (.irem, 1) := by decide +kernel
theorem dX2_takeBack_32 : decode cX2_takeBack 32 = .ok (.istore_n 2, 1) := by decide +kernel
theorem dX2_takeBack_33 : decode cX2_takeBack 33 = .ok (.iload_n 2, 1) := by decide +kernel
theorem dX2_takeBack_34 : decode cX2_takeBack 34 = .ok (.bipush 16, 2) := by decide +kernel
theorem dX2_takeBack_36 : decode cX2_takeBack 36 = .ok (.imul, 1) := by decide +kernel
theorem dX2_takeBack_37 : decode cX2_takeBack 37 = .ok (.istore_n 3, 1) := by decide +kernel
theorem dX2_takeBack_38 : decode cX2_takeBack 38 = .ok (.aload_n 0, 1) := by decide +kernel
theorem dX2_takeBack_39 : decode cX2_takeBack 39 = .ok (.getfield 15, 3) := by decide +kernel
theorem dX2_takeBack_42 : decode cX2_takeBack 42 = .ok (.iload_n 3, 1) := by decide +kernel
theorem dX2_takeBack_43 : decode cX2_takeBack 43 = .ok (.aload_n 1, 1) := by decide +kernel
theorem dX2_takeBack_44 : decode cX2_takeBack 44 = .ok (.getfield 31, 3) := by decide +kernel
theorem dX2_takeBack_47 : decode cX2_takeBack 47 = .ok (.iconst 0, 1) := by decide +kernel
theorem dX2_takeBack_48 : decode cX2_takeBack 48 = .ok (.bipush 8, 2) := by decide +kernel
theorem dX2_takeBack_50 : decode cX2_takeBack 50 = .ok (.invokestatic 22, 3) := by decide +kernel
theorem dX2_takeBack_53 : decode cX2_takeBack 53 = .ok (.aload_n 0, 1) := by decide +kernel
theorem dX2_takeBack_54 : decode cX2_takeBack 54 = .ok (.getfield 15, 3) := by decide +kernel
theorem dX2_takeBack_57 : decode cX2_takeBack 57 = .ok (.iload_n 3, 1) := by decide +kernel
theorem dX2_takeBack_58 : decode cX2_takeBack 58 = .ok (.bipush 8, 2) := by decide +kernel
theorem dX2_takeBack_60 : decode cX2_takeBack 60 = .ok (.iadd, 1) := by decide +kernel
theorem dX2_takeBack_61 : decode cX2_takeBack 61 = .ok (.aload_n 1, 1) := by decide +kernel
theorem dX2_takeBack_62 : decode cX2_takeBack 62 = .ok (.getfield 36, 3) := by decide +kernel
theorem dX2_takeBack_65 : decode cX2_takeBack 65 = .ok (.iconst 0, 1) := by decide +kernel
theorem dX2_takeBack_66 : decode cX2_takeBack 66 = .ok (.iconst 4, 1) := by decide +kernel
theorem dX2_takeBack_67 : decode cX2_takeBack 67 = .ok (.invokestatic 22, 3) := by decide +kernel
theorem dX2_takeBack_70 : decode cX2_takeBack 70 = .ok (.iload_n 3, 1) := by decide +kernel
theorem dX2_takeBack_71 : decode cX2_takeBack 71 = .ok (.bipush 8, 2) := by decide +kernel
theorem dX2_takeBack_73 : decode cX2_takeBack 73 = .ok (.iadd, 1) := by decide +kernel
theorem dX2_takeBack_74 : decode cX2_takeBack 74 = .ok (.iconst 4, 1) := by decide +kernel
theorem dX2_takeBack_75 : decode cX2_takeBack 75 = .ok (.iadd, 1) := by decide +kernel
theorem dX2_takeBack_76 : decode cX2_takeBack 76 = .ok (.istore 4, 2) := by decide +kernel
theorem dX2_takeBack_78 : decode cX2_takeBack 78 = .ok (.aload_n 1, 1) := by decide +kernel
theorem dX2_takeBack_79 : decode cX2_takeBack 79 = .ok (.aload_n 0, 1) := by decide +kernel
theorem dX2_takeBack_80 : decode cX2_takeBack 80 = .ok (.getfield 15, 3) := by decide +kernel
theorem dX2_takeBack_83 : decode cX2_takeBack 83 = .ok (.iload 4, 2) := by decide +kernel
theorem dX2_takeBack_85 : decode cX2_takeBack 85 = .ok (.iaload, 1) := by decide +kernel
theorem dX2_takeBack_86 : decode cX2_takeBack 86 = .ok (.putfield 39, 3) := by decide +kernel
theorem dX2_takeBack_89 : decode cX2_takeBack 89 = .ok (.aload_n 1, 1) := by decide +kernel
theorem dX2_takeBack_90 : decode cX2_takeBack 90 = .ok (.aload_n 0, 1) := by decide +kernel
theorem dX2_takeBack_91 : decode cX2_takeBack 91 = .ok (.getfield 15, 3) := by decide +kernel
theorem dX2_takeBack_94 : decode cX2_takeBack 94 = .ok (.iload 4, 2) := by decide +kernel
theorem dX2_takeBack_96 : decode cX2_takeBack 96 = .ok (.iconst 1, 1) := by decide +kernel
theorem dX2_takeBack_97 : decode cX2_takeBack 97 = .ok (.iadd, 1) := by decide +kernel
theorem dX2_takeBack_98 : decode cX2_takeBack 98 = .ok (.iaload, 1) := by decide +kernel
theorem dX2_takeBack_99 : decode cX2_takeBack 99 = .ok (.putfield 42, 3) := by decide +kernel
theorem dX2_takeBack_102 : decode cX2_takeBack 102 = .ok (.aload_n 1, 1) := by decide +kernel
theorem dX2_takeBack_103 : decode cX2_takeBack 103 = .ok (.aload_n 0, 1) := by decide +kernel
theorem dX2_takeBack_104 : decode cX2_takeBack 104 = .ok (.getfield 15, 3) := by decide +kernel
theorem dX2_takeBack_107 : decode cX2_takeBack 107 = .ok (.iload 4, 2) := by decide +kernel
theorem dX2_takeBack_109 : decode cX2_takeBack 109 = .ok (.iconst 2, 1) := by decide +kernel
theorem dX2_takeBack_110 : decode cX2_takeBack 110 = .ok (.iadd, 1) := by decide +kernel
theorem dX2_takeBack_111 : decode cX2_takeBack 111 = .ok (.iaload, 1) := by decide +kernel
theorem dX2_takeBack_112 : decode cX2_takeBack 112 = .ok (.putfield 45, 3) := by decide +kernel
theorem dX2_takeBack_115 : decode cX2_takeBack 115 = .ok (.aload_n 1, 1) := by decide +kernel
theorem dX2_takeBack_116 : decode cX2_takeBack 116 = .ok (.getfield 48, 3) := by decide +kernel
theorem dX2_takeBack_119 : decode cX2_takeBack 119 = .ok (.iconst 0, 1) := by decide +kernel
theorem dX2_takeBack_120 : decode cX2_takeBack 120 = .ok (.aload_n 0, 1) := by decide +kernel
theorem dX2_takeBack_121 : decode cX2_takeBack 121 = .ok (.getfield 15, 3) := by decide +kernel
theorem dX2_takeBack_124 : decode cX2_takeBack 124 = .ok (.iload 4, 2) := by decide +kernel
theorem dX2_takeBack_126 : decode cX2_takeBack 126 = .ok (.iconst 3, 1) := by decide +kernel
theorem dX2_takeBack_127 : decode cX2_takeBack 127 = .ok (.iadd, 1) := by decide +kernel
theorem dX2_takeBack_128 : decode cX2_takeBack 128 = .ok (.iaload, 1) := by decide +kernel
theorem dX2_takeBack_129 : decode cX2_takeBack 129 = .ok (.iastore, 1) := by decide +kernel
theorem dX2_takeBack_130 : decode cX2_takeBack 130 = .ok (.aload_n 0, 1) := by decide +kernel
theorem dX2_takeBack_131 : decode cX2_takeBack 131 = .ok (.getfield 11, 3) := by decide +kernel
theorem dX2_takeBack_134 : decode cX2_takeBack 134 = .ok (.iload_n 2, 1) := by decide +kernel
theorem dX2_takeBack_135 : decode cX2_takeBack 135 = .ok (.iaload, 1) := by decide +kernel
theorem dX2_takeBack_136 : decode cX2_takeBack 136 = .ok (.ireturn, 1) := by decide +kernel
theorem dX3_init_0 : decode cX3_init 0 = .ok (.aload_n 0, 1) := by decide +kernel
theorem dX3_init_1 : decode cX3_init 1 = .ok (.invokespecial 3, 3) := by decide +kernel
theorem dX3_init_4 : decode cX3_init 4 = .ok (.aload_n 0, 1) := by decide +kernel
theorem dX3_init_5 : decode cX3_init 5 = .ok (.bipush 64, 2) := by decide +kernel
theorem dX3_init_7 : decode cX3_init 7 = .ok (.newarray .int, 2) := by decide +kernel
theorem dX3_init_9 : decode cX3_init 9 = .ok (.putfield 9, 3) := by decide +kernel
theorem dX3_init_12 : decode cX3_init 12 = .ok (.return_, 1) := by decide +kernel
theorem dX3_value_0 : decode cX3_value 0 = .ok (.iconst 0, 1) := by decide +kernel
theorem dX3_value_1 : decode cX3_value 1 = .ok (.istore 4, 2) := by decide +kernel
theorem dX3_value_3 : decode cX3_value 3 = .ok (.iload_n 2, 1) := by decide +kernel
theorem dX3_value_4 : decode cX3_value 4 = .ok (.istore 5, 2) := by decide +kernel
theorem dX3_value_6 : decode cX3_value 6 = .ok (.iconst 0, 1) := by decide +kernel
theorem dX3_value_7 : decode cX3_value 7 = .ok (.istore 6, 2) := by decide +kernel
theorem dX3_value_9 : decode cX3_value 9 = .ok (.iload 6, 2) := by decide +kernel
theorem dX3_value_11 : decode cX3_value 11 = .ok (.aload_n 1, 1) := by decide +kernel
theorem dX3_value_12 : decode cX3_value 12 = .ok (.arraylength, 1) := by decide +kernel
theorem dX3_value_13 : decode cX3_value 13 = .ok (.if_icmp .ge 267, 3) := by decide +kernel
theorem dX3_value_16 : decode cX3_value 16 = .ok (.iload 5, 2) := by decide +kernel
theorem dX3_value_18 : decode cX3_value 18 = .ok (.ifCond .lt 262, 3) := by decide +kernel
theorem dX3_value_21 : decode cX3_value 21 = .ok (.iload 5, 2) := by decide +kernel
theorem dX3_value_23 : decode cX3_value 23 = .ok (.aload_n 1, 1) := by decide +kernel
theorem dX3_value_24 : decode cX3_value 24 = .ok (.arraylength, 1) := by decide +kernel
theorem dX3_value_25 : decode cX3_value 25 = .ok (.if_icmp .ge 255, 3) := by decide +kernel
theorem dX3_value_28 : decode cX3_value 28 = .ok (.aload_n 1, 1) := by decide +kernel
theorem dX3_value_29 : decode cX3_value 29 = .ok (.iload 5, 2) := by decide +kernel
theorem dX3_value_31 : decode cX3_value 31 = .ok (.iaload, 1) := by decide +kernel
theorem dX3_value_32 : decode cX3_value 32 = .ok (.bipush 16, 2) := by decide +kernel
theorem dX3_value_34 : decode cX3_value 34 = .ok (.irem, 1) := by decide +kernel
theorem dX3_value_35 : decode cX3_value 35 = .ok (.istore 7, 2) := by decide +kernel
theorem dX3_value_37 : decode cX3_value 37 = .ok (.aload_n 1, 1) := by decide +kernel
theorem dX3_value_38 : decode cX3_value 38 = .ok (.iload 5, 2) := by decide +kernel
theorem dX3_value_40 : decode cX3_value 40 = .ok (.iaload, 1) := by decide +kernel
theorem dX3_value_41 : decode cX3_value 41 = .ok (.bipush 16, 2) := by decide +kernel
theorem dX3_value_43 : decode cX3_value 43 = .ok (.idiv, 1) := by decide +kernel
theorem dX3_value_44 : decode cX3_value 44 = .ok (.istore 8, 2) := by decide +kernel
theorem dX3_value_46 : decode cX3_value 46 = .ok (.iinc 5 1, 3) := by decide +kernel
theorem dX3_value_49 : decode cX3_value 49 = .ok (.iload 7, 2) := by decide +kernel
theorem dX3_value_51 : decode cX3_value 51 = .ok (.ifCond .ne 6, 3) := by decide +kernel
theorem dX3_value_54 : decode cX3_value 54 = .ok (.goto 226, 3) := by decide +kernel
theorem dX3_value_57 : decode cX3_value 57 = .ok (.iload 4, 2) := by decide +kernel
theorem dX3_value_59 : decode cX3_value 59 = .ok (.aload_n 0, 1) := by decide +kernel
theorem dX3_value_60 : decode cX3_value 60 = .ok (.getfield 9, 3) := by decide +kernel
theorem dX3_value_63 : decode cX3_value 63 = .ok (.arraylength, 1) := by decide +kernel
theorem dX3_value_64 : decode cX3_value 64 = .ok (.if_icmp .ge 16, 3) := by decide +kernel
theorem dX3_value_67 : decode cX3_value 67 = .ok (.iload 7, 2) := by decide +kernel
theorem dX3_value_69 : decode cX3_value 69 = .ok (.iconst 2, 1) := by decide +kernel
theorem dX3_value_70 : decode cX3_value 70 = .ok (.if_icmp .ne 13, 3) := by decide +kernel
theorem dX3_value_73 : decode cX3_value 73 = .ok (.iload 8, 2) := by decide +kernel
theorem dX3_value_75 : decode cX3_value 75 = .ok (.aload_n 3, 1) := by decide +kernel
theorem dX3_value_76 : decode cX3_value 76 = .ok (.arraylength, 1) := by decide +kernel
theorem dX3_value_77 : decode cX3_value 77 = .ok (.if_icmp .lt 6, 3) := by decide +kernel
theorem dX3_value_80 : decode cX3_value 80 = .ok (.ldc 15, 2) := by decide +kernel
theorem dX3_value_82 : decode cX3_value 82 = .ok (.ireturn, 1) := by decide +kernel
theorem dX3_value_83 : decode cX3_value 83 = .ok (.iload 7, 2) := by decide +kernel
theorem dX3_value_85 : decode cX3_value 85 = .ok (.iconst 1, 1) := by decide +kernel
theorem dX3_value_86 : decode cX3_value 86 = .ok (.if_icmp .eq 9, 3) := by decide +kernel
theorem dX3_value_89 : decode cX3_value 89 = .ok (.iload 7, 2) := by decide +kernel
theorem dX3_value_91 : decode cX3_value 91 = .ok (.iconst 2, 1) := by decide +kernel
theorem dX3_value_92 : decode cX3_value 92 = .ok (.if_icmp .ne 31, 3) := by decide +kernel
theorem dX3_value_95 : decode cX3_value 95 = .ok (.aload_n 0, 1) := by decide +kernel
theorem dX3_value_96 : decode cX3_value 96 = .ok (.getfield 9, 3) := by decide +kernel
theorem dX3_value_99 : decode cX3_value 99 = .ok (.iload 4, 2) := by decide +kernel
theorem dX3_value_101 : decode cX3_value 101 = .ok (.iload 7, 2) := by decide +kernel
theorem dX3_value_103 : decode cX3_value 103 = .ok (.iconst 1, 1) := by decide +kernel
theorem dX3_value_104 : decode cX3_value 104 = .ok (.if_icmp .ne 8, 3) := by decide +kernel
theorem dX3_value_107 : decode cX3_value 107 = .ok (.iload 8, 2) := by decide +kernel
theorem dX3_value_109 : decode cX3_value 109 = .ok (.goto 7, 3) := by decide +kernel
theorem dX3_value_112 : decode cX3_value 112 = .ok (.aload_n 3, 1) := by decide +kernel
theorem dX3_value_113 : decode cX3_value 113 = .ok (.iload 8, 2) := by decide +kernel
theorem dX3_value_115 : decode cX3_value 115 = .ok (.iaload, 1) := by decide +kernel
theorem dX3_value_116 : decode cX3_value 116 = .ok (.iastore, 1) := by decide +kernel
theorem dX3_value_117 : decode cX3_value 117 = .ok (.iinc 4 1, 3) := by decide +kernel
theorem dX3_value_120 : decode cX3_value 120 = .ok (.goto 154, 3) := by decide +kernel
theorem dX3_value_123 : decode cX3_value 123 = .ok (.iload 4, 2) := by decide +kernel
theorem dX3_value_125 : decode cX3_value 125 = .ok (.iconst 1, 1) := by decide +kernel
theorem dX3_value_126 : decode cX3_value 126 = .ok (.if_icmp .ge 6, 3) := by decide +kernel
theorem dX3_value_129 : decode cX3_value 129 = .ok (.ldc 15, 2) := by decide +kernel
theorem dX3_value_131 : decode cX3_value 131 = .ok (.ireturn, 1) := by decide +kernel
theorem dX3_value_132 : decode cX3_value 132 = .ok (.iload 7, 2) := by decide +kernel
theorem dX3_value_134 : decode cX3_value 134 = .ok (.bipush 11, 2) := by decide +kernel
theorem dX3_value_136 : decode cX3_value 136 = .ok (.if_icmp .ne 26, 3) := by decide +kernel
theorem dX3_value_139 : decode cX3_value 139 = .ok (.aload_n 0, 1) := by decide +kernel
theorem dX3_value_140 : decode cX3_value 140 = .ok (.getfield 9, 3) := by decide +kernel
theorem dX3_value_143 : decode cX3_value 143 = .ok (.iload 4, 2) := by decide +kernel
theorem dX3_value_145 : decode cX3_value 145 = .ok (.iconst 1, 1) := by decide +kernel
theorem dX3_value_146 : decode cX3_value 146 = .ok (.isub, 1) := by decide +kernel
theorem dX3_value_147 : decode cX3_value 147 = .ok (.iconst 1, 1) := by decide +kernel
theorem dX3_value_148 : decode cX3_value 148 = .ok (.aload_n 0, 1) := by decide +kernel
theorem dX3_value_149 : decode cX3_value 149 = .ok (.getfield 9, 3) := by decide +kernel
theorem dX3_value_152 : decode cX3_value 152 = .ok (.iload 4, 2) := by decide +kernel
theorem dX3_value_154 : decode cX3_value 154 = .ok (.iconst 1, 1) := by decide +kernel
theorem dX3_value_155 : decode cX3_value 155 = .ok (.isub, 1) := by decide +kernel
theorem dX3_value_156 : decode cX3_value 156 = .ok (.iaload, 1) := by decide +kernel
theorem dX3_value_157 : decode cX3_value 157 = .ok (.isub, 1) := by decide +kernel
theorem dX3_value_158 : decode cX3_value 158 = .ok (.iastore, 1) := by decide +kernel
theorem dX3_value_159 : decode cX3_value 159 = .ok (.goto 115, 3) := by decide +kernel
theorem dX3_value_162 : decode cX3_value 162 = .ok (.iload 7, 2) := by decide +kernel
theorem dX3_value_164 : decode cX3_value 164 = .ok (.bipush 12, 2) := by decide +kernel
theorem dX3_value_166 : decode cX3_value 166 = .ok (.if_icmp .eq 10, 3) := by decide +kernel
theorem dX3_value_169 : decode cX3_value 169 = .ok (.iload 7, 2) := by decide +kernel
theorem dX3_value_171 : decode cX3_value 171 = .ok (.bipush 13, 2) := by decide +kernel
theorem dX3_value_173 : decode cX3_value 173 = .ok (.if_icmp .ne 40, 3) := by decide +kernel
theorem dX3_value_176 : decode cX3_value 176 = .ok (.aload_n 0, 1) := by decide +kernel
theorem dX3_value_177 : decode cX3_value 177 = .ok (.getfield 9, 3) := by decide +kernel
theorem dX3_value_180 : decode cX3_value 180 = .ok (.iload 4, 2) := by decide +kernel
theorem dX3_value_182 : decode cX3_value 182 = .ok (.iconst 1, 1) := by decide +kernel
theorem dX3_value_183 : decode cX3_value 183 = .ok (.isub, 1) := by decide +kernel
theorem dX3_value_184 : decode cX3_value 184 = .ok (.iaload, 1) := by decide +kernel
theorem dX3_value_185 : decode cX3_value 185 = .ok (.iload 7, 2) := by decide +kernel
theorem dX3_value_187 : decode cX3_value 187 = .ok (.bipush 12, 2) := by decide +kernel
theorem dX3_value_189 : decode cX3_value 189 = .ok (.if_icmp .ne 7, 3) := by decide +kernel
theorem dX3_value_192 : decode cX3_value 192 = .ok (.iconst 1, 1) := by decide +kernel
theorem dX3_value_193 : decode cX3_value 193 = .ok (.goto 4, 3) := by decide +kernel
theorem dX3_value_196 : decode cX3_value 196 = .ok (.iconst 0, 1) := by decide +kernel
theorem dX3_value_197 : decode cX3_value 197 = .ok (.if_icmp .ne 10, 3) := by decide +kernel
theorem dX3_value_200 : decode cX3_value 200 = .ok (.iload 8, 2) := by decide +kernel
theorem dX3_value_202 : decode cX3_value 202 = .ok (.istore 5, 2) := by decide +kernel
theorem dX3_value_204 : decode cX3_value 204 = .ok (.goto 70, 3) := by decide +kernel
theorem dX3_value_207 : decode cX3_value 207 = .ok (.iinc 4 (-1), 3) := by decide +kernel
theorem dX3_value_210 : decode cX3_value 210 = .ok (.goto 64, 3) := by decide +kernel
theorem dX3_value_213 : decode cX3_value 213 = .ok (.iload 4, 2) := by decide +kernel
theorem dX3_value_215 : decode cX3_value 215 = .ok (.iconst 2, 1) := by decide +kernel
theorem dX3_value_216 : decode cX3_value 216 = .ok (.if_icmp .ge 6, 3) := by decide +kernel
theorem dX3_value_219 : decode cX3_value 219 = .ok (.ldc 15, 2) := by decide +kernel
theorem dX3_value_221 : decode cX3_value 221 = .ok (.ireturn, 1) := by decide +kernel
theorem dX3_value_222 : decode cX3_value 222 = .ok (.iinc 4 (-1), 3) := by decide +kernel
theorem dX3_value_225 : decode cX3_value 225 = .ok (.aload_n 0, 1) := by decide +kernel
theorem dX3_value_226 : decode cX3_value 226 = .ok (.getfield 9, 3) := by decide +kernel
theorem dX3_value_229 : decode cX3_value 229 = .ok (.iload 4, 2) := by decide +kernel
theorem dX3_value_231 : decode cX3_value 231 = .ok (.iconst 1, 1) := by decide +kernel
theorem dX3_value_232 : decode cX3_value 232 = .ok (.isub, 1) := by decide +kernel
theorem dX3_value_233 : decode cX3_value 233 = .ok (.iload 7, 2) := by decide +kernel
theorem dX3_value_235 : decode cX3_value 235 = .ok (.aload_n 0, 1) := by decide +kernel
theorem dX3_value_236 : decode cX3_value 236 = .ok (.getfield 9, 3) := by decide +kernel
theorem dX3_value_239 : decode cX3_value 239 = .ok (.iload 4, 2) := by decide +kernel
theorem dX3_value_241 : decode cX3_value 241 = .ok (.iconst 1, 1) := by decide +kernel
theorem dX3_value_242 : decode cX3_value 242 = .ok (.isub, 1) := by decide +kernel
theorem dX3_value_243 : decode cX3_value 243 = .ok (.iaload, 1) := by decide +kernel
theorem dX3_value_244 : decode cX3_value 244 = .ok (.i2l, 1) := by decide +kernel
theorem dX3_value_245 : decode cX3_value 245 = .ok (.aload_n 0, 1) := by decide +kernel
theorem dX3_value_246 : decode cX3_value 246 = .ok (.getfield 9, 3) := by decide +kernel
theorem dX3_value_249 : decode cX3_value 249 = .ok (.iload 4, 2) := by decide +kernel
theorem dX3_value_251 : decode cX3_value 251 = .ok (.iaload, 1) := by decide +kernel
theorem dX3_value_252 : decode cX3_value 252 = .ok (.i2l, 1) := by decide +kernel
theorem dX3_value_253 : decode cX3_value 253 = .ok (.invokestatic 16, 3) := by decide +kernel
theorem dX3_value_256 : decode cX3_value 256 = .ok (.iastore, 1) := by decide +kernel
theorem dX3_value_257 : decode cX3_value 257 = .ok (.aload_n 0, 1) := by decide +kernel
theorem dX3_value_258 : decode cX3_value 258 = .ok (.getfield 9, 3) := by decide +kernel
theorem dX3_value_261 : decode cX3_value 261 = .ok (.iload 4, 2) := by decide +kernel
theorem dX3_value_263 : decode cX3_value 263 = .ok (.iconst 1, 1) := by decide +kernel
theorem dX3_value_264 : decode cX3_value 264 = .ok (.isub, 1) := by decide +kernel
theorem dX3_value_265 : decode cX3_value 265 = .ok (.iaload, 1) := by decide +kernel
theorem dX3_value_266 : decode cX3_value 266 = .ok (.ldc 15, 2) := by decide +kernel
theorem dX3_value_268 : decode cX3_value 268 = .ok (.if_icmp .ne 6, 3) := by decide +kernel
theorem dX3_value_271 : decode cX3_value 271 = .ok (.ldc 15, 2) := by decide +kernel
theorem dX3_value_273 : decode cX3_value 273 = .ok (.ireturn, 1) := by decide +kernel
theorem dX3_value_274 : decode cX3_value 274 = .ok (.iinc 6 1, 3) := by decide +kernel
theorem dX3_value_277 : decode cX3_value 277 = .ok (.goto (-268), 3) := by decide +kernel
theorem dX3_value_280 : decode cX3_value 280 = .ok (.iload 4, 2) := by decide +kernel
theorem dX3_value_282 : decode cX3_value 282 = .ok (.iconst 1, 1) := by decide +kernel
theorem dX3_value_283 : decode cX3_value 283 = .ok (.if_icmp .ne 12, 3) := by decide +kernel
theorem dX3_value_286 : decode cX3_value 286 = .ok (.aload_n 0, 1) := by decide +kernel
theorem dX3_value_287 : decode cX3_value 287 = .ok (.getfield 9, 3) := by decide +kernel
theorem dX3_value_290 : decode cX3_value 290 = .ok (.iconst 0, 1) := by decide +kernel
theorem dX3_value_291 : decode cX3_value 291 = .ok (.iaload, 1) := by decide +kernel
theorem dX3_value_292 : decode cX3_value 292 = .ok (.goto 5, 3) := by decide +kernel
theorem dX3_value_295 : decode cX3_value 295 = .ok (.ldc 15, 2) := by decide +kernel
theorem dX3_value_297 : decode cX3_value 297 = .ok (.ireturn, 1) := by decide +kernel
theorem dX3_joined_0 : decode cX3_joined 0 = .ok (.lconst 0, 1) := by decide +kernel
theorem dX3_joined_1 : decode cX3_joined 1 = .ok (.lstore 5, 2) := by decide +kernel
theorem dX3_joined_3 : decode cX3_joined 3 = .ok (.iload_n 0, 1) := by decide +kernel
theorem dX3_joined_4 : decode cX3_joined 4 = .ok (.tableswitch 108 3 10 #[84, 92, 100, 108, 108, 48, 60, 72], 48) := by decide +kernel
theorem dX3_joined_52 : decode cX3_joined 52 = .ok (.lload_n 1, 1) := by decide +kernel
theorem dX3_joined_53 : decode cX3_joined 53 = .ok (.lload_n 3, 1) := by decide +kernel
theorem dX3_joined_54 : decode cX3_joined 54 = .ok (.lcmp, 1) := by decide +kernel
theorem dX3_joined_55 : decode cX3_joined 55 = .ok (.ifCond .ge 7, 3) := by decide +kernel
theorem dX3_joined_58 : decode cX3_joined 58 = .ok (.iconst 1, 1) := by decide +kernel
theorem dX3_joined_59 : decode cX3_joined 59 = .ok (.goto 4, 3) := by decide +kernel
theorem dX3_joined_62 : decode cX3_joined 62 = .ok (.iconst 0, 1) := by decide +kernel
theorem dX3_joined_63 : decode cX3_joined 63 = .ok (.ireturn, 1) := by decide +kernel
theorem dX3_joined_64 : decode cX3_joined 64 = .ok (.lload_n 1, 1) := by decide +kernel
theorem dX3_joined_65 : decode cX3_joined 65 = .ok (.lload_n 3, 1) := by decide +kernel
theorem dX3_joined_66 : decode cX3_joined 66 = .ok (.lcmp, 1) := by decide +kernel
theorem dX3_joined_67 : decode cX3_joined 67 = .ok (.ifCond .le 7, 3) := by decide +kernel
theorem dX3_joined_70 : decode cX3_joined 70 = .ok (.iconst 1, 1) := by decide +kernel
theorem dX3_joined_71 : decode cX3_joined 71 = .ok (.goto 4, 3) := by decide +kernel
theorem dX3_joined_74 : decode cX3_joined 74 = .ok (.iconst 0, 1) := by decide +kernel
theorem dX3_joined_75 : decode cX3_joined 75 = .ok (.ireturn, 1) := by decide +kernel
theorem dX3_joined_76 : decode cX3_joined 76 = .ok (.lload_n 1, 1) := by decide +kernel
theorem dX3_joined_77 : decode cX3_joined 77 = .ok (.lload_n 3, 1) := by decide +kernel
theorem dX3_joined_78 : decode cX3_joined 78 = .ok (.lcmp, 1) := by decide +kernel
theorem dX3_joined_79 : decode cX3_joined 79 = .ok (.ifCond .ne 7, 3) := by decide +kernel
theorem dX3_joined_82 : decode cX3_joined 82 = .ok (.iconst 1, 1) := by decide +kernel
theorem dX3_joined_83 : decode cX3_joined 83 = .ok (.goto 4, 3) := by decide +kernel
theorem dX3_joined_86 : decode cX3_joined 86 = .ok (.iconst 0, 1) := by decide +kernel
theorem dX3_joined_87 : decode cX3_joined 87 = .ok (.ireturn, 1) := by decide +kernel
theorem dX3_joined_88 : decode cX3_joined 88 = .ok (.lload_n 1, 1) := by decide +kernel
theorem dX3_joined_89 : decode cX3_joined 89 = .ok (.lload_n 3, 1) := by decide +kernel
theorem dX3_joined_90 : decode cX3_joined 90 = .ok (.ladd, 1) := by decide +kernel
theorem dX3_joined_91 : decode cX3_joined 91 = .ok (.lstore 5, 2) := by decide +kernel
theorem dX3_joined_93 : decode cX3_joined 93 = .ok (.goto 45, 3) := by decide +kernel
theorem dX3_joined_96 : decode cX3_joined 96 = .ok (.lload_n 1, 1) := by decide +kernel
theorem dX3_joined_97 : decode cX3_joined 97 = .ok (.lload_n 3, 1) := by decide +kernel
theorem dX3_joined_98 : decode cX3_joined 98 = .ok (.lsub, 1) := by decide +kernel
theorem dX3_joined_99 : decode cX3_joined 99 = .ok (.lstore 5, 2) := by decide +kernel
theorem dX3_joined_101 : decode cX3_joined 101 = .ok (.goto 37, 3) := by decide +kernel
theorem dX3_joined_104 : decode cX3_joined 104 = .ok (.lload_n 1, 1) := by decide +kernel
theorem dX3_joined_105 : decode cX3_joined 105 = .ok (.lload_n 3, 1) := by decide +kernel
theorem dX3_joined_106 : decode cX3_joined 106 = .ok (.lmul, 1) := by decide +kernel
theorem dX3_joined_107 : decode cX3_joined 107 = .ok (.lstore 5, 2) := by decide +kernel
theorem dX3_joined_109 : decode cX3_joined 109 = .ok (.goto 29, 3) := by decide +kernel
theorem dX3_joined_112 : decode cX3_joined 112 = .ok (.lload_n 3, 1) := by decide +kernel
theorem dX3_joined_113 : decode cX3_joined 113 = .ok (.lconst 0, 1) := by decide +kernel
theorem dX3_joined_114 : decode cX3_joined 114 = .ok (.lcmp, 1) := by decide +kernel
theorem dX3_joined_115 : decode cX3_joined 115 = .ok (.ifCond .ne 6, 3) := by decide +kernel
theorem dX3_joined_118 : decode cX3_joined 118 = .ok (.ldc 15, 2) := by decide +kernel
theorem dX3_joined_120 : decode cX3_joined 120 = .ok (.ireturn, 1) := by decide +kernel
theorem dX3_joined_121 : decode cX3_joined 121 = .ok (.iload_n 0, 1) := by decide +kernel
theorem dX3_joined_122 : decode cX3_joined 122 = .ok (.bipush 6, 2) := by decide +kernel
theorem dX3_joined_124 : decode cX3_joined 124 = .ok (.if_icmp .ne 9, 3) := by decide +kernel
theorem dX3_joined_127 : decode cX3_joined 127 = .ok (.lload_n 1, 1) := by decide +kernel
theorem dX3_joined_128 : decode cX3_joined 128 = .ok (.lload_n 3, 1) := by decide +kernel
theorem dX3_joined_129 : decode cX3_joined 129 = .ok (.ldiv, 1) := by decide +kernel
theorem dX3_joined_130 : decode cX3_joined 130 = .ok (.goto 6, 3) := by decide +kernel
theorem dX3_joined_133 : decode cX3_joined 133 = .ok (.lload_n 1, 1) := by decide +kernel
theorem dX3_joined_134 : decode cX3_joined 134 = .ok (.lload_n 3, 1) := by decide +kernel
theorem dX3_joined_135 : decode cX3_joined 135 = .ok (.lrem, 1) := by decide +kernel
theorem dX3_joined_136 : decode cX3_joined 136 = .ok (.lstore 5, 2) := by decide +kernel
theorem dX3_joined_138 : decode cX3_joined 138 = .ok (.lload 5, 2) := by decide +kernel
theorem dX3_joined_140 : decode cX3_joined 140 = .ok (.ldc2_w 20, 3) := by decide +kernel
theorem dX3_joined_143 : decode cX3_joined 143 = .ok (.lcmp, 1) := by decide +kernel
theorem dX3_joined_144 : decode cX3_joined 144 = .ok (.ifCond .gt 12, 3) := by decide +kernel
theorem dX3_joined_147 : decode cX3_joined 147 = .ok (.lload 5, 2) := by decide +kernel
theorem dX3_joined_149 : decode cX3_joined 149 = .ok (.ldc2_w 22, 3) := by decide +kernel
theorem dX3_joined_152 : decode cX3_joined 152 = .ok (.lcmp, 1) := by decide +kernel
theorem dX3_joined_153 : decode cX3_joined 153 = .ok (.ifCond .ge 8, 3) := by decide +kernel
theorem dX3_joined_156 : decode cX3_joined 156 = .ok (.ldc 15, 2) := by decide +kernel
theorem dX3_joined_158 : decode cX3_joined 158 = .ok (.goto 6, 3) := by decide +kernel
theorem dX3_joined_161 : decode cX3_joined 161 = .ok (.lload 5, 2) := by decide +kernel
theorem dX3_joined_163 : decode cX3_joined 163 = .ok (.l2i, 1) := by decide +kernel
theorem dX3_joined_164 : decode cX3_joined 164 = .ok (.ireturn, 1) := by decide +kernel
theorem dX4_init_0 : decode cX4_init 0 = .ok (.aload_n 0, 1) := by decide +kernel
theorem dX4_init_1 : decode cX4_init 1 = .ok (.invokespecial 3, 3) := by decide +kernel
theorem dX4_init_4 : decode cX4_init 4 = .ok (.aload_n 0, 1) := by decide +kernel
theorem dX4_init_5 : decode cX4_init 5 = .ok (.bipush 8, 2) := by decide +kernel
theorem dX4_init_7 : decode cX4_init 7 = .ok (.newarray .int, 2) := by decide +kernel
theorem dX4_init_9 : decode cX4_init 9 = .ok (.putfield 9, 3) := by decide +kernel
theorem dX4_init_12 : decode cX4_init 12 = .ok (.aload_n 0, 1) := by decide +kernel
theorem dX4_init_13 : decode cX4_init 13 = .ok (.aload_n 1, 1) := by decide +kernel
theorem dX4_init_14 : decode cX4_init 14 = .ok (.putfield 15, 3) := by decide +kernel
theorem dX4_init_17 : decode cX4_init 17 = .ok (.return_, 1) := by decide +kernel
theorem dX4_act_0 : decode cX4_act 0 = .ok (.aload_n 2, 1) := by decide +kernel
theorem dX4_act_1 : decode cX4_act 1 = .ok (.aload_n 1, 1) := by decide +kernel
theorem dX4_act_2 : decode cX4_act 2 = .ok (.invokevirtual 19, 3) := by decide +kernel
theorem dX4_act_5 : decode cX4_act 5 = .ok (.iconst (-1), 1) := by decide +kernel
theorem dX4_act_6 : decode cX4_act 6 = .ok (.istore 6, 2) := by decide +kernel
theorem dX4_act_8 : decode cX4_act 8 = .ok (.iload_n 3, 1) := by decide +kernel
theorem dX4_act_9 : decode cX4_act 9 = .ok (.tableswitch 79 16 18 #[27, 53, 65], 27) := by decide +kernel
theorem dX4_act_36 : decode cX4_act 36 = .ok (.aload_n 0, 1) := by decide +kernel
theorem dX4_act_37 : decode cX4_act 37 = .ok (.aload_n 1, 1) := by decide +kernel
theorem dX4_act_38 : decode cX4_act 38 = .ok (.iload 4, 2) := by decide +kernel
theorem dX4_act_40 : decode cX4_act 40 = .ok (.iload 5, 2) := by decide +kernel
theorem dX4_act_42 : decode cX4_act 42 = .ok (.invokevirtual 25, 3) := by decide +kernel
theorem dX4_act_45 : decode cX4_act 45 = .ok (.istore 6, 2) := by decide +kernel
theorem dX4_act_47 : decode cX4_act 47 = .ok (.iload 6, 2) := by decide +kernel
theorem dX4_act_49 : decode cX4_act 49 = .ok (.ifCond .lt 48, 3) := by decide +kernel
theorem dX4_act_52 : decode cX4_act 52 = .ok (.aload_n 0, 1) := by decide +kernel
theorem dX4_act_53 : decode cX4_act 53 = .ok (.aload_n 1, 1) := by decide +kernel
theorem dX4_act_54 : decode cX4_act 54 = .ok (.invokevirtual 29, 3) := by decide +kernel
theorem dX4_act_57 : decode cX4_act 57 = .ok (.istore 6, 2) := by decide +kernel
theorem dX4_act_59 : decode cX4_act 59 = .ok (.goto 38, 3) := by decide +kernel
theorem dX4_act_62 : decode cX4_act 62 = .ok (.aload_n 0, 1) := by decide +kernel
theorem dX4_act_63 : decode cX4_act 63 = .ok (.aload_n 1, 1) := by decide +kernel
theorem dX4_act_64 : decode cX4_act 64 = .ok (.iload 4, 2) := by decide +kernel
theorem dX4_act_66 : decode cX4_act 66 = .ok (.invokevirtual 33, 3) := by decide +kernel
theorem dX4_act_69 : decode cX4_act 69 = .ok (.istore 6, 2) := by decide +kernel
theorem dX4_act_71 : decode cX4_act 71 = .ok (.goto 26, 3) := by decide +kernel
theorem dX4_act_74 : decode cX4_act 74 = .ok (.aload_n 0, 1) := by decide +kernel
theorem dX4_act_75 : decode cX4_act 75 = .ok (.aload_n 1, 1) := by decide +kernel
theorem dX4_act_76 : decode cX4_act 76 = .ok (.iload 4, 2) := by decide +kernel
theorem dX4_act_78 : decode cX4_act 78 = .ok (.iload 5, 2) := by decide +kernel
theorem dX4_act_80 : decode cX4_act 80 = .ok (.invokevirtual 37, 3) := by decide +kernel
theorem dX4_act_83 : decode cX4_act 83 = .ok (.istore 6, 2) := by decide +kernel
theorem dX4_act_85 : decode cX4_act 85 = .ok (.goto 12, 3) := by decide +kernel
theorem dX4_act_88 : decode cX4_act 88 = .ok (.aload_n 0, 1) := by decide +kernel
theorem dX4_act_89 : decode cX4_act 89 = .ok (.aload_n 1, 1) := by decide +kernel
theorem dX4_act_90 : decode cX4_act 90 = .ok (.iload 4, 2) := by decide +kernel
theorem dX4_act_92 : decode cX4_act 92 = .ok (.invokevirtual 40, 3) := by decide +kernel
theorem dX4_act_95 : decode cX4_act 95 = .ok (.istore 6, 2) := by decide +kernel
theorem dX4_act_97 : decode cX4_act 97 = .ok (.iload 6, 2) := by decide +kernel
theorem dX4_act_99 : decode cX4_act 99 = .ok (.ifCond .lt 11, 3) := by decide +kernel
theorem dX4_act_102 : decode cX4_act 102 = .ok (.aload_n 2, 1) := by decide +kernel
