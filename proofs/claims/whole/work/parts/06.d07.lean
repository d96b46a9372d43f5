theorem dX11_ground_52 : decode cX11_ground 52 = .ok (.iconst 1, 1) := by decide +kernel
theorem dX11_ground_53 : decode cX11_ground 53 = .ok (.isub, 1) := by decide +kernel
theorem dX11_ground_54 : decode cX11_ground 54 = .ok (.invokevirtual 97, 3) := by decide +kernel
theorem dX11_ground_57 : decode cX11_ground 57 = .ok (.ireturn, 1) := by decide +kernel
theorem dX11_at_0 : decode cX11_at 0 = .ok (.aload_n 0, 1) := by decide +kernel
theorem dX11_at_1 : decode cX11_at 1 = .ok (.iload_n 1, 1) := by decide +kernel
theorem dX11_at_2 : decode cX11_at 2 = .ok (.invokevirtual 129, 3) := by decide +kernel
theorem dX11_at_5 : decode cX11_at 5 = .ok (.ifCond .ne 5, 3) := by decide +kernel
theorem dX11_at_8 : decode cX11_at 8 = .ok (.iconst (-1), 1) := by decide +kernel
theorem dX11_at_9 : decode cX11_at 9 = .ok (.ireturn, 1) := by decide +kernel
theorem dX11_at_10 : decode cX11_at 10 = .ok (.iload_n 2, 1) := by decide +kernel
theorem dX11_at_11 : decode cX11_at 11 = .ok (.tableswitch 69 0 4 #[33, 43, 43, 43, 59], 33) := by decide +kernel
theorem dX11_at_44 : decode cX11_at 44 = .ok (.aload_n 0, 1) := by decide +kernel
theorem dX11_at_45 : decode cX11_at 45 = .ok (.getfield 24, 3) := by decide +kernel
theorem dX11_at_48 : decode cX11_at 48 = .ok (.bipush 19, 2) := by decide +kernel
theorem dX11_at_50 : decode cX11_at 50 = .ok (.iload_n 1, 1) := by decide +kernel
theorem dX11_at_51 : decode cX11_at 51 = .ok (.iadd, 1) := by decide +kernel
theorem dX11_at_52 : decode cX11_at 52 = .ok (.iaload, 1) := by decide +kernel
theorem dX11_at_53 : decode cX11_at 53 = .ok (.ireturn, 1) := by decide +kernel
theorem dX11_at_54 : decode cX11_at 54 = .ok (.aload_n 0, 1) := by decide +kernel
theorem dX11_at_55 : decode cX11_at 55 = .ok (.getfield 24, 3) := by decide +kernel
theorem dX11_at_58 : decode cX11_at 58 = .ok (.bipush 39, 2) := by decide +kernel
theorem dX11_at_60 : decode cX11_at 60 = .ok (.iconst 3, 1) := by decide +kernel
theorem dX11_at_61 : decode cX11_at 61 = .ok (.iload_n 1, 1) := by decide +kernel
theorem dX11_at_62 : decode cX11_at 62 = .ok (.imul, 1) := by decide +kernel
theorem dX11_at_63 : decode cX11_at 63 = .ok (.iadd, 1) := by decide +kernel
theorem dX11_at_64 : decode cX11_at 64 = .ok (.iload_n 2, 1) := by decide +kernel
theorem dX11_at_65 : decode cX11_at 65 = .ok (.iadd, 1) := by decide +kernel
theorem dX11_at_66 : decode cX11_at 66 = .ok (.iconst 1, 1) := by decide +kernel
theorem dX11_at_67 : decode cX11_at 67 = .ok (.isub, 1) := by decide +kernel
theorem dX11_at_68 : decode cX11_at 68 = .ok (.iaload, 1) := by decide +kernel
theorem dX11_at_69 : decode cX11_at 69 = .ok (.ireturn, 1) := by decide +kernel
theorem dX11_at_70 : decode cX11_at 70 = .ok (.aload_n 0, 1) := by decide +kernel
theorem dX11_at_71 : decode cX11_at 71 = .ok (.iload_n 1, 1) := by decide +kernel
theorem dX11_at_72 : decode cX11_at 72 = .ok (.aload_n 0, 1) := by decide +kernel
theorem dX11_at_73 : decode cX11_at 73 = .ok (.invokevirtual 108, 3) := by decide +kernel
theorem dX11_at_76 : decode cX11_at 76 = .ok (.invokevirtual 132, 3) := by decide +kernel
theorem dX11_at_79 : decode cX11_at 79 = .ok (.ireturn, 1) := by decide +kernel
theorem dX11_at_80 : decode cX11_at 80 = .ok (.iconst (-1), 1) := by decide +kernel
theorem dX11_at_81 : decode cX11_at 81 = .ok (.ireturn, 1) := by decide +kernel
theorem dX11_price_0 : decode cX11_price 0 = .ok (.iload_n 1, 1) := by decide +kernel
theorem dX11_price_1 : decode cX11_price 1 = .ok (.iconst 0, 1) := by decide +kernel
theorem dX11_price_2 : decode cX11_price 2 = .ok (.iconst 5, 1) := by decide +kernel
theorem dX11_price_3 : decode cX11_price 3 = .ok (.invokestatic 90, 3) := by decide +kernel
theorem dX11_price_6 : decode cX11_price 6 = .ok (.ifCond .eq 13, 3) := by decide +kernel
theorem dX11_price_9 : decode cX11_price 9 = .ok (.iload_n 2, 1) := by decide +kernel
theorem dX11_price_10 : decode cX11_price 10 = .ok (.iconst 0, 1) := by decide +kernel
theorem dX11_price_11 : decode cX11_price 11 = .ok (.bipush 99, 2) := by decide +kernel
theorem dX11_price_13 : decode cX11_price 13 = .ok (.invokestatic 90, 3) := by decide +kernel
theorem dX11_price_16 : decode cX11_price 16 = .ok (.ifCond .ne 9, 3) := by decide +kernel
theorem dX11_price_19 : decode cX11_price 19 = .ok (.aload_n 0, 1) := by decide +kernel
theorem dX11_price_20 : decode cX11_price 20 = .ok (.iconst (-1), 1) := by decide +kernel
theorem dX11_price_21 : decode cX11_price 21 = .ok (.invokevirtual 94, 3) := by decide +kernel
theorem dX11_price_24 : decode cX11_price 24 = .ok (.ireturn, 1) := by decide +kernel
theorem dX11_price_25 : decode cX11_price 25 = .ok (.aload_n 0, 1) := by decide +kernel
theorem dX11_price_26 : decode cX11_price 26 = .ok (.getfield 24, 3) := by decide +kernel
theorem dX11_price_29 : decode cX11_price 29 = .ok (.bipush 51, 2) := by decide +kernel
theorem dX11_price_31 : decode cX11_price 31 = .ok (.iload_n 1, 1) := by decide +kernel
theorem dX11_price_32 : decode cX11_price 32 = .ok (.iadd, 1) := by decide +kernel
theorem dX11_price_33 : decode cX11_price 33 = .ok (.iaload, 1) := by decide +kernel
theorem dX11_price_34 : decode cX11_price 34 = .ok (.istore_n 3, 1) := by decide +kernel
theorem dX11_price_35 : decode cX11_price 35 = .ok (.aload_n 0, 1) := by decide +kernel
theorem dX11_price_36 : decode cX11_price 36 = .ok (.getfield 24, 3) := by decide +kernel
theorem dX11_price_39 : decode cX11_price 39 = .ok (.bipush 51, 2) := by decide +kernel
theorem dX11_price_41 : decode cX11_price 41 = .ok (.iload_n 1, 1) := by decide +kernel
theorem dX11_price_42 : decode cX11_price 42 = .ok (.iadd, 1) := by decide +kernel
theorem dX11_price_43 : decode cX11_price 43 = .ok (.iload_n 2, 1) := by decide +kernel
theorem dX11_price_44 : decode cX11_price 44 = .ok (.iastore, 1) := by decide +kernel
theorem dX11_price_45 : decode cX11_price 45 = .ok (.aload_n 0, 1) := by decide +kernel
theorem dX11_price_46 : decode cX11_price 46 = .ok (.iload_n 3, 1) := by decide +kernel
theorem dX11_price_47 : decode cX11_price 47 = .ok (.invokevirtual 14, 3) := by decide +kernel
theorem dX11_price_50 : decode cX11_price 50 = .ok (.ireturn, 1) := by decide +kernel
theorem dX11_isTerm_0 : decode cX11_isTerm 0 = .ok (.iload_n 1, 1) := by decide +kernel
theorem dX11_isTerm_1 : decode cX11_isTerm 1 = .ok (.tableswitch 61 0 2 #[27, 35, 53], 27) := by decide +kernel
theorem dX11_isTerm_28 : decode cX11_isTerm 28 = .ok (.iload_n 2, 1) := by decide +kernel
theorem dX11_isTerm_29 : decode cX11_isTerm 29 = .ok (.iconst 0, 1) := by decide +kernel
theorem dX11_isTerm_30 : decode cX11_isTerm 30 = .ok (.bipush 71, 2) := by decide +kernel
theorem dX11_isTerm_32 : decode cX11_isTerm 32 = .ok (.invokestatic 90, 3) := by decide +kernel
theorem dX11_isTerm_35 : decode cX11_isTerm 35 = .ok (.ireturn, 1) := by decide +kernel
theorem dX11_isTerm_36 : decode cX11_isTerm 36 = .ok (.iload_n 2, 1) := by decide +kernel
theorem dX11_isTerm_37 : decode cX11_isTerm 37 = .ok (.iconst 1, 1) := by decide +kernel
theorem dX11_isTerm_38 : decode cX11_isTerm 38 = .ok (.aload_n 0, 1) := by decide +kernel
theorem dX11_isTerm_39 : decode cX11_isTerm 39 = .ok (.getfield 24, 3) := by decide +kernel
theorem dX11_isTerm_42 : decode cX11_isTerm 42 = .ok (.iconst 0, 1) := by decide +kernel
theorem dX11_isTerm_43 : decode cX11_isTerm 43 = .ok (.iaload, 1) := by decide +kernel
theorem dX11_isTerm_44 : decode cX11_isTerm 44 = .ok (.invokestatic 136, 3) := by decide +kernel
theorem dX11_isTerm_47 : decode cX11_isTerm 47 = .ok (.sipush 999, 3) := by decide +kernel
theorem dX11_isTerm_50 : decode cX11_isTerm 50 = .ok (.invokestatic 90, 3) := by decide +kernel
theorem dX11_isTerm_53 : decode cX11_isTerm 53 = .ok (.ireturn, 1) := by decide +kernel
theorem dX11_isTerm_54 : decode cX11_isTerm 54 = .ok (.iload_n 2, 1) := by decide +kernel
theorem dX11_isTerm_55 : decode cX11_isTerm 55 = .ok (.iconst 0, 1) := by decide +kernel
theorem dX11_isTerm_56 : decode cX11_isTerm 56 = .ok (.bipush 9, 2) := by decide +kernel
theorem dX11_isTerm_58 : decode cX11_isTerm 58 = .ok (.invokestatic 90, 3) := by decide +kernel
theorem dX11_isTerm_61 : decode cX11_isTerm 61 = .ok (.ireturn, 1) := by decide +kernel
theorem dX11_isTerm_62 : decode cX11_isTerm 62 = .ok (.iconst 0, 1) := by decide +kernel
theorem dX11_isTerm_63 : decode cX11_isTerm 63 = .ok (.ireturn, 1) := by decide +kernel
theorem dX11_terms_0 : decode cX11_terms 0 = .ok (.aload_n 0, 1) := by decide +kernel
theorem dX11_terms_1 : decode cX11_terms 1 = .ok (.iload_n 1, 1) := by decide +kernel
theorem dX11_terms_2 : decode cX11_terms 2 = .ok (.iload_n 2, 1) := by decide +kernel
theorem dX11_terms_3 : decode cX11_terms 3 = .ok (.invokevirtual 139, 3) := by decide +kernel
theorem dX11_terms_6 : decode cX11_terms 6 = .ok (.ifCond .ne 9, 3) := by decide +kernel
theorem dX11_terms_9 : decode cX11_terms 9 = .ok (.aload_n 0, 1) := by decide +kernel
theorem dX11_terms_10 : decode cX11_terms 10 = .ok (.iconst (-1), 1) := by decide +kernel
theorem dX11_terms_11 : decode cX11_terms 11 = .ok (.invokevirtual 94, 3) := by decide +kernel
theorem dX11_terms_14 : decode cX11_terms 14 = .ok (.ireturn, 1) := by decide +kernel
theorem dX11_terms_15 : decode cX11_terms 15 = .ok (.iload_n 1, 1) := by decide +kernel
theorem dX11_terms_16 : decode cX11_terms 16 = .ok (.ifCond .ne 7, 3) := by decide +kernel
theorem dX11_terms_19 : decode cX11_terms 19 = .ok (.iconst 2, 1) := by decide +kernel
theorem dX11_terms_20 : decode cX11_terms 20 = .ok (.goto 9, 3) := by decide +kernel
theorem dX11_terms_23 : decode cX11_terms 23 = .ok (.bipush 73, 2) := by decide +kernel
theorem dX11_terms_25 : decode cX11_terms 25 = .ok (.iload_n 1, 1) := by decide +kernel
theorem dX11_terms_26 : decode cX11_terms 26 = .ok (.iadd, 1) := by decide +kernel
theorem dX11_terms_27 : decode cX11_terms 27 = .ok (.iconst 1, 1) := by decide +kernel
theorem dX11_terms_28 : decode cX11_terms 28 = .ok (.isub, 1) := by decide +kernel
theorem dX11_terms_29 : decode cX11_terms 29 = .ok (.istore_n 3, 1) := by decide +kernel
theorem dX11_terms_30 : decode cX11_terms 30 = .ok (.aload_n 0, 1) := by decide +kernel
theorem dX11_terms_31 : decode cX11_terms 31 = .ok (.getfield 24, 3) := by decide +kernel
theorem dX11_terms_34 : decode cX11_terms 34 = .ok (.iload_n 3, 1) := by decide +kernel
theorem dX11_terms_35 : decode cX11_terms 35 = .ok (.iaload, 1) := by decide +kernel
theorem dX11_terms_36 : decode cX11_terms 36 = .ok (.istore 4, 2) := by decide +kernel
theorem dX11_terms_38 : decode cX11_terms 38 = .ok (.aload_n 0, 1) := by decide +kernel
theorem dX11_terms_39 : decode cX11_terms 39 = .ok (.getfield 24, 3) := by decide +kernel
theorem dX11_terms_42 : decode cX11_terms 42 = .ok (.iload_n 3, 1) := by decide +kernel
theorem dX11_terms_43 : decode cX11_terms 43 = .ok (.iload_n 2, 1) := by decide +kernel
theorem dX11_terms_44 : decode cX11_terms 44 = .ok (.iastore, 1) := by decide +kernel
theorem dX11_terms_45 : decode cX11_terms 45 = .ok (.aload_n 0, 1) := by decide +kernel
theorem dX11_terms_46 : decode cX11_terms 46 = .ok (.iload 4, 2) := by decide +kernel
theorem dX11_terms_48 : decode cX11_terms 48 = .ok (.invokevirtual 97, 3) := by decide +kernel
theorem dX11_terms_51 : decode cX11_terms 51 = .ok (.ireturn, 1) := by decide +kernel
theorem dX11_row_0 : decode cX11_row 0 = .ok (.aload_n 0, 1) := by decide +kernel
theorem dX11_row_1 : decode cX11_row 1 = .ok (.getfield 143, 3) := by decide +kernel
theorem dX11_row_4 : decode cX11_row 4 = .ok (.istore_n 1, 1) := by decide +kernel
theorem dX11_row_5 : decode cX11_row 5 = .ok (.aload_n 0, 1) := by decide +kernel
theorem dX11_row_6 : decode cX11_row 6 = .ok (.iconst 0, 1) := by decide +kernel
theorem dX11_row_7 : decode cX11_row 7 = .ok (.putfield 143, 3) := by decide +kernel
theorem dX11_row_10 : decode cX11_row 10 = .ok (.iload_n 1, 1) := by decide +kernel
theorem dX11_row_11 : decode cX11_row 11 = .ok (.ifCond .ne 10, 3) := by decide +kernel
theorem dX11_row_14 : decode cX11_row 14 = .ok (.aload_n 0, 1) := by decide +kernel
theorem dX11_row_15 : decode cX11_row 15 = .ok (.bipush (-6), 2) := by decide +kernel
theorem dX11_row_17 : decode cX11_row 17 = .ok (.invokevirtual 94, 3) := by decide +kernel
theorem dX11_row_20 : decode cX11_row 20 = .ok (.ireturn, 1) := by decide +kernel
theorem dX11_row_21 : decode cX11_row 21 = .ok (.iconst 0, 1) := by decide +kernel
theorem dX11_row_22 : decode cX11_row 22 = .ok (.istore_n 2, 1) := by decide +kernel
theorem dX11_row_23 : decode cX11_row 23 = .ok (.aload_n 0, 1) := by decide +kernel
theorem dX11_row_24 : decode cX11_row 24 = .ok (.iload_n 1, 1) := by decide +kernel
theorem dX11_row_25 : decode cX11_row 25 = .ok (.iconst 4, 1) := by decide +kernel
theorem dX11_row_26 : decode cX11_row 26 = .ok (.irem, 1) := by decide +kernel
theorem dX11_row_27 : decode cX11_row 27 = .ok (.ifCond .ne 7, 3) := by decide +kernel
theorem dX11_row_30 : decode cX11_row 30 = .ok (.iconst 0, 1) := by decide +kernel
theorem dX11_row_31 : decode cX11_row 31 = .ok (.goto 4, 3) := by decide +kernel
theorem dX11_row_34 : decode cX11_row 34 = .ok (.iconst 1, 1) := by decide +kernel
theorem dX11_row_35 : decode cX11_row 35 = .ok (.putfield 146, 3) := by decide +kernel
theorem dX11_row_38 : decode cX11_row 38 = .ok (.iconst 0, 1) := by decide +kernel
theorem dX11_row_39 : decode cX11_row 39 = .ok (.istore_n 3, 1) := by decide +kernel
theorem dX11_row_40 : decode cX11_row 40 = .ok (.iload_n 3, 1) := by decide +kernel
theorem dX11_row_41 : decode cX11_row 41 = .ok (.iconst 4, 1) := by decide +kernel
theorem dX11_row_42 : decode cX11_row 42 = .ok (.iadd, 1) := by decide +kernel
theorem dX11_row_43 : decode cX11_row 43 = .ok (.iload_n 1, 1) := by decide +kernel
theorem dX11_row_44 : decode cX11_row 44 = .ok (.if_icmp .gt 134, 3) := by decide +kernel
theorem dX11_row_47 : decode cX11_row 47 = .ok (.aload_n 0, 1) := by decide +kernel
theorem dX11_row_48 : decode cX11_row 48 = .ok (.getfield 24, 3) := by decide +kernel
theorem dX11_row_51 : decode cX11_row 51 = .ok (.bipush 76, 2) := by decide +kernel
theorem dX11_row_53 : decode cX11_row 53 = .ok (.iaload, 1) := by decide +kernel
theorem dX11_row_54 : decode cX11_row 54 = .ok (.iconst 4, 1) := by decide +kernel
theorem dX11_row_55 : decode cX11_row 55 = .ok (.if_icmp .ge 43, 3) := by decide +kernel
theorem dX11_row_58 : decode cX11_row 58 = .ok (.aload_n 0, 1) := by decide +kernel
theorem dX11_row_59 : decode cX11_row 59 = .ok (.getfield 41, 3) := by decide +kernel
theorem dX11_row_62 : decode cX11_row 62 = .ok (.iload_n 3, 1) := by decide +kernel
theorem dX11_row_63 : decode cX11_row 63 = .ok (.baload, 1) := by decide +kernel
theorem dX11_row_64 : decode cX11_row 64 = .ok (.aload_n 0, 1) := by decide +kernel
theorem dX11_row_65 : decode cX11_row 65 = .ok (.getfield 41, 3) := by decide +kernel
theorem dX11_row_68 : decode cX11_row 68 = .ok (.iload_n 3, 1) := by decide +kernel
theorem dX11_row_69 : decode cX11_row 69 = .ok (.iconst 1, 1) := by decide +kernel
theorem dX11_row_70 : decode cX11_row 70 = .ok (.iadd, 1) := by decide +kernel
theorem dX11_row_71 : decode cX11_row 71 = .ok (.baload, 1) := by decide +kernel
theorem dX11_row_72 : decode cX11_row 72 = .ok (.aload_n 0, 1) := by decide +kernel
theorem dX11_row_73 : decode cX11_row 73 = .ok (.getfield 41, 3) := by decide +kernel
theorem dX11_row_76 : decode cX11_row 76 = .ok (.iload_n 3, 1) := by decide +kernel
theorem dX11_row_77 : decode cX11_row 77 = .ok (.iconst 2, 1) := by decide +kernel
theorem dX11_row_78 : decode cX11_row 78 = .ok (.iadd, 1) := by decide +kernel
theorem dX11_row_79 : decode cX11_row 79 = .ok (.baload, 1) := by decide +kernel
theorem dX11_row_80 : decode cX11_row 80 = .ok (.aload_n 0, 1) := by decide +kernel
theorem dX11_row_81 : decode cX11_row 81 = .ok (.getfield 41, 3) := by decide +kernel
theorem dX11_row_84 : decode cX11_row 84 = .ok (.iload_n 3, 1) := by decide +kernel
theorem dX11_row_85 : decode cX11_row 85 = .ok (.iconst 3, 1) := by decide +kernel
theorem dX11_row_86 : decode cX11_row 86 = .ok (.iadd, 1) := by decide +kernel
theorem dX11_row_87 : decode cX11_row 87 = .ok (.baload, 1) := by decide +kernel
theorem dX11_row_88 : decode cX11_row 88 = .ok (.invokestatic 121, 3) := by decide +kernel
theorem dX11_row_91 : decode cX11_row 91 = .ok (.ifCond .eq 7, 3) := by decide +kernel
theorem dX11_row_94 : decode cX11_row 94 = .ok (.iconst 1, 1) := by decide +kernel
theorem dX11_row_95 : decode cX11_row 95 = .ok (.goto 4, 3) := by decide +kernel
theorem dX11_row_98 : decode cX11_row 98 = .ok (.iconst 0, 1) := by decide +kernel
theorem dX11_row_99 : decode cX11_row 99 = .ok (.istore 4, 2) := by decide +kernel
theorem dX11_row_101 : decode cX11_row 101 = .ok (.iload 4, 2) := by decide +kernel
theorem dX11_row_103 : decode cX11_row 103 = .ok (.ifCond .eq 37, 3) := by decide +kernel
theorem dX11_row_106 : decode cX11_row 106 = .ok (.aload_n 0, 1) := by decide +kernel
theorem dX11_row_107 : decode cX11_row 107 = .ok (.aload_n 0, 1) := by decide +kernel
theorem dX11_row_108 : decode cX11_row 108 = .ok (.getfield 41, 3) := by decide +kernel
theorem dX11_row_111 : decode cX11_row 111 = .ok (.iload_n 3, 1) := by decide +kernel
theorem dX11_row_112 : decode cX11_row 112 = .ok (.baload, 1) := by decide +kernel
theorem dX11_row_113 : decode cX11_row 113 = .ok (.aload_n 0, 1) := by decide +kernel
theorem dX11_row_114 : decode cX11_row 114 = .ok (.getfield 41, 3) := by decide +kernel
theorem dX11_row_117 : decode cX11_row 117 = .ok (.iload_n 3, 1) := by decide +kernel
theorem dX11_row_118 : decode cX11_row 118 = .ok (.iconst 1, 1) := by decide +kernel
theorem dX11_row_119 : decode cX11_row 119 = .ok (.iadd, 1) := by decide +kernel
theorem dX11_row_120 : decode cX11_row 120 = .ok (.baload, 1) := by decide +kernel
theorem dX11_row_121 : decode cX11_row 121 = .ok (.aload_n 0, 1) := by decide +kernel
theorem dX11_row_122 : decode cX11_row 122 = .ok (.getfield 41, 3) := by decide +kernel
theorem dX11_row_125 : decode cX11_row 125 = .ok (.iload_n 3, 1) := by decide +kernel
theorem dX11_row_126 : decode cX11_row 126 = .ok (.iconst 2, 1) := by decide +kernel
theorem dX11_row_127 : decode cX11_row 127 = .ok (.iadd, 1) := by decide +kernel
theorem dX11_row_128 : decode cX11_row 128 = .ok (.baload, 1) := by decide +kernel
theorem dX11_row_129 : decode cX11_row 129 = .ok (.aload_n 0, 1) := by decide +kernel
theorem dX11_row_130 : decode cX11_row 130 = .ok (.getfield 41, 3) := by decide +kernel
theorem dX11_row_133 : decode cX11_row 133 = .ok (.iload_n 3, 1) := by decide +kernel
theorem dX11_row_134 : decode cX11_row 134 = .ok (.iconst 3, 1) := by decide +kernel
theorem dX11_row_135 : decode cX11_row 135 = .ok (.iadd, 1) := by decide +kernel
theorem dX11_row_136 : decode cX11_row 136 = .ok (.baload, 1) := by decide +kernel
theorem dX11_row_137 : decode cX11_row 137 = .ok (.invokevirtual 125, 3) := by decide +kernel
theorem dX11_row_140 : decode cX11_row 140 = .ok (.iload_n 2, 1) := by decide +kernel
theorem dX11_row_141 : decode cX11_row 141 = .ok (.iload 4, 2) := by decide +kernel
theorem dX11_row_143 : decode cX11_row 143 = .ok (.ifCond .eq 7, 3) := by decide +kernel
theorem dX11_row_146 : decode cX11_row 146 = .ok (.iconst 1, 1) := by decide +kernel
theorem dX11_row_147 : decode cX11_row 147 = .ok (.goto 4, 3) := by decide +kernel
theorem dX11_row_150 : decode cX11_row 150 = .ok (.iconst 0, 1) := by decide +kernel
theorem dX11_row_151 : decode cX11_row 151 = .ok (.iadd, 1) := by decide +kernel
theorem dX11_row_152 : decode cX11_row 152 = .ok (.istore_n 2, 1) := by decide +kernel
theorem dX11_row_153 : decode cX11_row 153 = .ok (.aload_n 0, 1) := by decide +kernel
theorem dX11_row_154 : decode cX11_row 154 = .ok (.dup, 1) := by decide +kernel
theorem dX11_row_155 : decode cX11_row 155 = .ok (.getfield 146, 3) := by decide +kernel
theorem dX11_row_158 : decode cX11_row 158 = .ok (.iload 4, 2) := by decide +kernel
theorem dX11_row_160 : decode cX11_row 160 = .ok (.ifCond .eq 7, 3) := by decide +kernel
theorem dX11_row_163 : decode cX11_row 163 = .ok (.iconst 0, 1) := by decide +kernel
theorem dX11_row_164 : decode cX11_row 164 = .ok (.goto 4, 3) := by decide +kernel
theorem dX11_row_167 : decode cX11_row 167 = .ok (.iconst 1, 1) := by decide +kernel
theorem dX11_row_168 : decode cX11_row 168 = .ok (.iadd, 1) := by decide +kernel
theorem dX11_row_169 : decode cX11_row 169 = .ok (.putfield 146, 3) := by decide +kernel
theorem dX11_row_172 : decode cX11_row 172 = .ok (.iinc 3 4, 3) := by decide +kernel
theorem dX11_row_175 : decode cX11_row 175 = .ok (.goto (-135), 3) := by decide +kernel
theorem dX11_row_178 : decode cX11_row 178 = .ok (.aload_n 0, 1) := by decide +kernel
theorem dX11_row_179 : decode cX11_row 179 = .ok (.iload_n 2, 1) := by decide +kernel
theorem dX11_row_180 : decode cX11_row 180 = .ok (.invokevirtual 97, 3) := by decide +kernel
theorem dX11_row_183 : decode cX11_row 183 = .ok (.ireturn, 1) := by decide +kernel
theorem dX11_spray_0 : decode cX11_spray 0 = .ok (.aload_n 0, 1) := by decide +kernel
theorem dX11_spray_1 : decode cX11_spray 1 = .ok (.getfield 146, 3) := by decide +kernel
theorem dX11_spray_4 : decode cX11_spray 4 = .ok (.ireturn, 1) := by decide +kernel
theorem dX11_feed_0 : decode cX11_feed 0 = .ok (.aload_n 0, 1) := by decide +kernel
theorem dX11_feed_1 : decode cX11_feed 1 = .ok (.getfield 143, 3) := by decide +kernel
theorem dX11_feed_4 : decode cX11_feed 4 = .ok (.bipush 20, 2) := by decide +kernel
theorem dX11_feed_6 : decode cX11_feed 6 = .ok (.iadd, 1) := by decide +kernel
theorem dX11_feed_7 : decode cX11_feed 7 = .ok (.sipush 400, 3) := by decide +kernel
theorem dX11_feed_10 : decode cX11_feed 10 = .ok (.if_icmp .le 5, 3) := by decide +kernel
theorem dX11_feed_13 : decode cX11_feed 13 = .ok (.iconst (-1), 1) := by decide +kernel
theorem dX11_feed_14 : decode cX11_feed 14 = .ok (.ireturn, 1) := by decide +kernel
theorem dX11_feed_15 : decode cX11_feed 15 = .ok (.aload_n 0, 1) := by decide +kernel
theorem dX11_feed_16 : decode cX11_feed 16 = .ok (.getfield 44, 3) := by decide +kernel
theorem dX11_feed_19 : decode cX11_feed 19 = .ok (.iconst 0, 1) := by decide +kernel
theorem dX11_feed_20 : decode cX11_feed 20 = .ok (.iload_n 1, 1) := by decide +kernel
theorem dX11_feed_21 : decode cX11_feed 21 = .ok (.iastore, 1) := by decide +kernel
theorem dX11_feed_22 : decode cX11_feed 22 = .ok (.aload_n 0, 1) := by decide +kernel
theorem dX11_feed_23 : decode cX11_feed 23 = .ok (.getfield 44, 3) := by decide +kernel
theorem dX11_feed_26 : decode cX11_feed 26 = .ok (.iconst 1, 1) := by decide +kernel
theorem dX11_feed_27 : decode cX11_feed 27 = .ok (.iload_n 2, 1) := by decide +kernel
theorem dX11_feed_28 : decode cX11_feed 28 = .ok (.iastore, 1) := by decide +kernel
theorem dX11_feed_29 : decode cX11_feed 29 = .ok (.aload_n 0, 1) := by decide +kernel
theorem dX11_feed_30 : decode cX11_feed 30 = .ok (.getfield 44, 3) := by decide +kernel
theorem dX11_feed_33 : decode cX11_feed 33 = .ok (.iconst 2, 1) := by decide +kernel
theorem dX11_feed_34 : decode cX11_feed 34 = .ok (.iload_n 3, 1) := by decide +kernel
theorem dX11_feed_35 : decode cX11_feed 35 = .ok (.iastore, 1) := by decide +kernel
theorem dX11_feed_36 : decode cX11_feed 36 = .ok (.aload_n 0, 1) := by decide +kernel
theorem dX11_feed_37 : decode cX11_feed 37 = .ok (.getfield 44, 3) := by decide +kernel
theorem dX11_feed_40 : decode cX11_feed 40 = .ok (.iconst 3, 1) := by decide +kernel
theorem dX11_feed_41 : decode cX11_feed 41 = .ok (.iload 4, 2) := by decide +kernel
theorem dX11_feed_43 : decode cX11_feed 43 = .ok (.iastore, 1) := by decide +kernel
theorem dX11_feed_44 : decode cX11_feed 44 = .ok (.aload_n 0, 1) := by decide +kernel
theorem dX11_feed_45 : decode cX11_feed 45 = .ok (.getfield 44, 3) := by decide +kernel
theorem dX11_feed_48 : decode cX11_feed 48 = .ok (.iconst 4, 1) := by decide +kernel
theorem dX11_feed_49 : decode cX11_feed 49 = .ok (.iload 5, 2) := by decide +kernel
theorem dX11_feed_51 : decode cX11_feed 51 = .ok (.iastore, 1) := by decide +kernel
theorem dX11_feed_52 : decode cX11_feed 52 = .ok (.iconst 0, 1) := by decide +kernel
theorem dX11_feed_53 : decode cX11_feed 53 = .ok (.istore 6, 2) := by decide +kernel
theorem dX11_feed_55 : decode cX11_feed 55 = .ok (.iload 6, 2) := by decide +kernel
theorem dX11_feed_57 : decode cX11_feed 57 = .ok (.bipush 20, 2) := by decide +kernel
theorem dX11_feed_59 : decode cX11_feed 59 = .ok (.if_icmp .ge 42, 3) := by decide +kernel
theorem dX11_feed_62 : decode cX11_feed 62 = .ok (.aload_n 0, 1) := by decide +kernel
theorem dX11_feed_63 : decode cX11_feed 63 = .ok (.getfield 41, 3) := by decide +kernel
theorem dX11_feed_66 : decode cX11_feed 66 = .ok (.aload_n 0, 1) := by decide +kernel
theorem dX11_feed_67 : decode cX11_feed 67 = .ok (.getfield 143, 3) := by decide +kernel
theorem dX11_feed_70 : decode cX11_feed 70 = .ok (.iload 6, 2) := by decide +kernel
theorem dX11_feed_72 : decode cX11_feed 72 = .ok (.iadd, 1) := by decide +kernel
theorem dX11_feed_73 : decode cX11_feed 73 = .ok (.aload_n 0, 1) := by decide +kernel
theorem dX11_feed_74 : decode cX11_feed 74 = .ok (.getfield 44, 3) := by decide +kernel
theorem dX11_feed_77 : decode cX11_feed 77 = .ok (.iload 6, 2) := by decide +kernel
theorem dX11_feed_79 : decode cX11_feed 79 = .ok (.iconst 4, 1) := by decide +kernel
theorem dX11_feed_80 : decode cX11_feed 80 = .ok (.idiv, 1) := by decide +kernel
theorem dX11_feed_81 : decode cX11_feed 81 = .ok (.iaload, 1) := by decide +kernel
theorem dX11_feed_82 : decode cX11_feed 82 = .ok (.bipush 24, 2) := by decide +kernel
theorem dX11_feed_84 : decode cX11_feed 84 = .ok (.bipush 8, 2) := by decide +kernel
theorem dX11_feed_86 : decode cX11_feed 86 = .ok (.iload 6, 2) := by decide +kernel
theorem dX11_feed_88 : decode cX11_feed 88 = .ok (.iconst 4, 1) := by decide +kernel
theorem dX11_feed_89 : decode cX11_feed 89 = .ok (.irem, 1) := by decide +kernel
theorem dX11_feed_90 : decode cX11_feed 90 = .ok (.imul, 1) := by decide +kernel
theorem dX11_feed_91 : decode cX11_feed 91 = .ok (.isub, 1) := by decide +kernel
theorem dX11_feed_92 : decode cX11_feed 92 = .ok (.ishr, 1) := by decide +kernel
theorem dX11_feed_93 : decode cX11_feed 93 = .ok (.i2b, 1) := by decide +kernel
theorem dX11_feed_94 : decode cX11_feed 94 = .ok (.bastore, 1) := by decide +kernel
theorem dX11_feed_95 : decode cX11_feed 95 = .ok (.iinc 6 1, 3) := by decide +kernel
theorem dX11_feed_98 : decode cX11_feed 98 = .ok (.goto (-43), 3) := by decide +kernel
theorem dX11_feed_101 : decode cX11_feed 101 = .ok (.aload_n 0, 1) := by decide +kernel
theorem dX11_feed_102 : decode cX11_feed 102 = .ok (.dup, 1) := by decide +kernel
theorem dX11_feed_103 : decode cX11_feed 103 = .ok (.getfield 143, 3) := by decide +kernel
theorem dX11_feed_106 : decode cX11_feed 106 = .ok (.bipush 20, 2) := by decide +kernel
theorem dX11_feed_108 : decode cX11_feed 108 = .ok (.iadd, 1) := by decide +kernel
theorem dX11_feed_109 : decode cX11_feed 109 = .ok (.putfield 143, 3) := by decide +kernel
theorem dX11_feed_112 : decode cX11_feed 112 = .ok (.aload_n 0, 1) := by decide +kernel
theorem dX11_feed_113 : decode cX11_feed 113 = .ok (.getfield 143, 3) := by decide +kernel
theorem dX11_feed_116 : decode cX11_feed 116 = .ok (.ireturn, 1) := by decide +kernel
theorem dX11_end_0 : decode cX11_end 0 = .ok (.iload_n 1, 1) := by decide +kernel
theorem dX11_end_1 : decode cX11_end 1 = .ok (.iconst 0, 1) := by decide +kernel
theorem dX11_end_2 : decode cX11_end 2 = .ok (.aload_n 0, 1) := by decide +kernel
theorem dX11_end_3 : decode cX11_end 3 = .ok (.getfield 143, 3) := by decide +kernel
theorem dX11_end_6 : decode cX11_end 6 = .ok (.invokestatic 90, 3) := by decide +kernel
theorem dX11_end_9 : decode cX11_end 9 = .ok (.ifCond .ne 5, 3) := by decide +kernel
theorem dX11_end_12 : decode cX11_end 12 = .ok (.iconst (-1), 1) := by decide +kernel
theorem dX11_end_13 : decode cX11_end 13 = .ok (.ireturn, 1) := by decide +kernel
theorem dX11_end_14 : decode cX11_end 14 = .ok (.aload_n 0, 1) := by decide +kernel
theorem dX11_end_15 : decode cX11_end 15 = .ok (.iload_n 1, 1) := by decide +kernel
theorem dX11_end_16 : decode cX11_end 16 = .ok (.putfield 143, 3) := by decide +kernel
theorem dX11_end_19 : decode cX11_end 19 = .ok (.iload_n 1, 1) := by decide +kernel
theorem dX11_end_20 : decode cX11_end 20 = .ok (.ireturn, 1) := by decide +kernel
theorem dX11_isSmall_0 : decode cX11_isSmall 0 = .ok (.iload_n 0, 1) := by decide +kernel
theorem dX11_isSmall_1 : decode cX11_isSmall 1 = .ok (.bipush 97, 2) := by decide +kernel
theorem dX11_isSmall_3 : decode cX11_isSmall 3 = .ok (.if_icmp .lt 13, 3) := by decide +kernel
theorem dX11_isSmall_6 : decode cX11_isSmall 6 = .ok (.iload_n 0, 1) := by decide +kernel
theorem dX11_isSmall_7 : decode cX11_isSmall 7 = .ok (.bipush 122, 2) := by decide +kernel
theorem dX11_isSmall_9 : decode cX11_isSmall 9 = .ok (.if_icmp .gt 7, 3) := by decide +kernel
theorem dX11_isSmall_12 : decode cX11_isSmall 12 = .ok (.iconst 1, 1) := by decide +kernel
theorem dX11_isSmall_13 : decode cX11_isSmall 13 = .ok (.goto 4, 3) := by decide +kernel
theorem dX11_isSmall_16 : decode cX11_isSmall 16 = .ok (.iconst 0, 1) := by decide +kernel
theorem dX11_isSmall_17 : decode cX11_isSmall 17 = .ok (.ireturn, 1) := by decide +kernel
theorem dX11_isDigit_0 : decode cX11_isDigit 0 = .ok (.iload_n 0, 1) := by decide +kernel
theorem dX11_isDigit_1 : decode cX11_isDigit 1 = .ok (.bipush 48, 2) := by decide +kernel
theorem dX11_isDigit_3 : decode cX11_isDigit 3 = .ok (.if_icmp .lt 13, 3) := by decide +kernel
theorem dX11_isDigit_6 : decode cX11_isDigit 6 = .ok (.iload_n 0, 1) := by decide +kernel
theorem dX11_isDigit_7 : decode cX11_isDigit 7 = .ok (.bipush 57, 2) := by decide +kernel
theorem dX11_isDigit_9 : decode cX11_isDigit 9 = .ok (.if_icmp .gt 7, 3) := by decide +kernel
theorem dX11_isDigit_12 : decode cX11_isDigit 12 = .ok (.iconst 1, 1) := by decide +kernel
theorem dX11_isDigit_13 : decode cX11_isDigit 13 = .ok (.goto 4, 3) := by decide +kernel
theorem dX11_isDigit_16 : decode cX11_isDigit 16 = .ok (.iconst 0, 1) := by decide +kernel
theorem dX11_isDigit_17 : decode cX11_isDigit 17 = .ok (.ireturn, 1) := by decide +kernel
theorem dX11_wordOf_0 : decode cX11_wordOf 0 = .ok (.iconst 1, 1) := by decide +kernel
theorem dX11_wordOf_1 : decode cX11_wordOf 1 = .ok (.istore_n 3, 1) := by decide +kernel
theorem dX11_wordOf_2 : decode cX11_wordOf 2 = .ok (.iconst 0, 1) := by decide +kernel
theorem dX11_wordOf_3 : decode cX11_wordOf 3 = .ok (.istore 4, 2) := by decide +kernel
theorem dX11_wordOf_5 : decode cX11_wordOf 5 = .ok (.iload 4, 2) := by decide +kernel
theorem dX11_wordOf_7 : decode cX11_wordOf 7 = .ok (.aload_n 0, 1) := by decide +kernel
theorem dX11_wordOf_8 : decode cX11_wordOf 8 = .ok (.getfield 37, 3) := by decide +kernel
theorem dX11_wordOf_11 : decode cX11_wordOf 11 = .ok (.arraylength, 1) := by decide +kernel
theorem dX11_wordOf_12 : decode cX11_wordOf 12 = .ok (.if_icmp .ge 114, 3) := by decide +kernel
theorem dX11_wordOf_15 : decode cX11_wordOf 15 = .ok (.iconst 0, 1) := by decide +kernel
theorem dX11_wordOf_16 : decode cX11_wordOf 16 = .ok (.istore 5, 2) := by decide +kernel
theorem dX11_wordOf_18 : decode cX11_wordOf 18 = .ok (.aload_n 0, 1) := by decide +kernel
theorem dX11_wordOf_19 : decode cX11_wordOf 19 = .ok (.getfield 37, 3) := by decide +kernel
theorem dX11_wordOf_22 : decode cX11_wordOf 22 = .ok (.iload 4, 2) := by decide +kernel
theorem dX11_wordOf_24 : decode cX11_wordOf 24 = .ok (.iload 5, 2) := by decide +kernel
theorem dX11_wordOf_26 : decode cX11_wordOf 26 = .ok (.iadd, 1) := by decide +kernel
theorem dX11_wordOf_27 : decode cX11_wordOf 27 = .ok (.baload, 1) := by decide +kernel
theorem dX11_wordOf_28 : decode cX11_wordOf 28 = .ok (.bipush 32, 2) := by decide +kernel
theorem dX11_wordOf_30 : decode cX11_wordOf 30 = .ok (.if_icmp .eq 9, 3) := by decide +kernel
theorem dX11_wordOf_33 : decode cX11_wordOf 33 = .ok (.iinc 5 1, 3) := by decide +kernel
theorem dX11_wordOf_36 : decode cX11_wordOf 36 = .ok (.goto (-18), 3) := by decide +kernel
theorem dX11_wordOf_39 : decode cX11_wordOf 39 = .ok (.iload 5, 2) := by decide +kernel
theorem dX11_wordOf_41 : decode cX11_wordOf 41 = .ok (.iload_n 2, 1) := by decide +kernel
theorem dX11_wordOf_42 : decode cX11_wordOf 42 = .ok (.iload_n 1, 1) := by decide +kernel
theorem dX11_wordOf_43 : decode cX11_wordOf 43 = .ok (.isub, 1) := by decide +kernel
theorem dX11_wordOf_44 : decode cX11_wordOf 44 = .ok (.if_icmp .ne 7, 3) := by decide +kernel
theorem dX11_wordOf_47 : decode cX11_wordOf 47 = .ok (.iconst 1, 1) := by decide +kernel
theorem dX11_wordOf_48 : decode cX11_wordOf 48 = .ok (.goto 4, 3) := by decide +kernel
theorem dX11_wordOf_51 : decode cX11_wordOf 51 = .ok (.iconst 0, 1) := by decide +kernel
theorem dX11_wordOf_52 : decode cX11_wordOf 52 = .ok (.istore 6, 2) := by decide +kernel
theorem dX11_wordOf_54 : decode cX11_wordOf 54 = .ok (.iconst 0, 1) := by decide +kernel
theorem dX11_wordOf_55 : decode cX11_wordOf 55 = .ok (.istore 7, 2) := by decide +kernel
theorem dX11_wordOf_57 : decode cX11_wordOf 57 = .ok (.iload 7, 2) := by decide +kernel
theorem dX11_wordOf_59 : decode cX11_wordOf 59 = .ok (.iload 5, 2) := by decide +kernel
theorem dX11_wordOf_61 : decode cX11_wordOf 61 = .ok (.if_icmp .ge 43, 3) := by decide +kernel
theorem dX11_wordOf_64 : decode cX11_wordOf 64 = .ok (.iload 6, 2) := by decide +kernel
theorem dX11_wordOf_66 : decode cX11_wordOf 66 = .ok (.ifCond .eq 38, 3) := by decide +kernel
theorem dX11_wordOf_69 : decode cX11_wordOf 69 = .ok (.aload_n 0, 1) := by decide +kernel
theorem dX11_wordOf_70 : decode cX11_wordOf 70 = .ok (.getfield 37, 3) := by decide +kernel
theorem dX11_wordOf_73 : decode cX11_wordOf 73 = .ok (.iload 4, 2) := by decide +kernel
theorem dX11_wordOf_75 : decode cX11_wordOf 75 = .ok (.iload 7, 2) := by decide +kernel
theorem dX11_wordOf_77 : decode cX11_wordOf 77 = .ok (.iadd, 1) := by decide +kernel
theorem dX11_wordOf_78 : decode cX11_wordOf 78 = .ok (.baload, 1) := by decide +kernel
theorem dX11_wordOf_79 : decode cX11_wordOf 79 = .ok (.aload_n 0, 1) := by decide +kernel
theorem dX11_wordOf_80 : decode cX11_wordOf 80 = .ok (.getfield 41, 3) := by decide +kernel
theorem dX11_wordOf_83 : decode cX11_wordOf 83 = .ok (.iload_n 1, 1) := by decide +kernel
theorem dX11_wordOf_84 : decode cX11_wordOf 84 = .ok (.iload 7, 2) := by decide +kernel
theorem dX11_wordOf_86 : decode cX11_wordOf 86 = .ok (.iadd, 1) := by decide +kernel
theorem dX11_wordOf_87 : decode cX11_wordOf 87 = .ok (.baload, 1) := by decide +kernel
theorem dX11_wordOf_88 : decode cX11_wordOf 88 = .ok (.if_icmp .ne 7, 3) := by decide +kernel
theorem dX11_wordOf_91 : decode cX11_wordOf 91 = .ok (.iconst 1, 1) := by decide +kernel
theorem dX11_wordOf_92 : decode cX11_wordOf 92 = .ok (.goto 4, 3) := by decide +kernel
theorem dX11_wordOf_95 : decode cX11_wordOf 95 = .ok (.iconst 0, 1) := by decide +kernel
theorem dX11_wordOf_96 : decode cX11_wordOf 96 = .ok (.istore 6, 2) := by decide +kernel
theorem dX11_wordOf_98 : decode cX11_wordOf 98 = .ok (.iinc 7 1, 3) := by decide +kernel
theorem dX11_wordOf_101 : decode cX11_wordOf 101 = .ok (.goto (-44), 3) := by decide +kernel
theorem dX11_wordOf_104 : decode cX11_wordOf 104 = .ok (.iload 6, 2) := by decide +kernel
theorem dX11_wordOf_106 : decode cX11_wordOf 106 = .ok (.ifCond .eq 5, 3) := by decide +kernel
theorem dX11_wordOf_109 : decode cX11_wordOf 109 = .ok (.iload_n 3, 1) := by decide +kernel
theorem dX11_wordOf_110 : decode cX11_wordOf 110 = .ok (.ireturn, 1) := by decide +kernel
theorem dX11_wordOf_111 : decode cX11_wordOf 111 = .ok (.iload 4, 2) := by decide +kernel
theorem dX11_wordOf_113 : decode cX11_wordOf 113 = .ok (.iload 5, 2) := by decide +kernel
theorem dX11_wordOf_115 : decode cX11_wordOf 115 = .ok (.iconst 1, 1) := by decide +kernel
theorem dX11_wordOf_116 : decode cX11_wordOf 116 = .ok (.iadd, 1) := by decide +kernel
theorem dX11_wordOf_117 : decode cX11_wordOf 117 = .ok (.iadd, 1) := by decide +kernel
theorem dX11_wordOf_118 : decode cX11_wordOf 118 = .ok (.istore 4, 2) := by decide +kernel
theorem dX11_wordOf_120 : decode cX11_wordOf 120 = .ok (.iinc 3 1, 3) := by decide +kernel
theorem dX11_wordOf_123 : decode cX11_wordOf 123 = .ok (.goto (-118), 3) := by decide +kernel
theorem dX11_wordOf_126 : decode cX11_wordOf 126 = .ok (.iconst 0, 1) := by decide +kernel
theorem dX11_wordOf_127 : decode cX11_wordOf 127 = .ok (.ireturn, 1) := by decide +kernel
theorem dX11_splits_0 : decode cX11_splits 0 = .ok (.aload_n 0, 1) := by decide +kernel
theorem dX11_splits_1 : decode cX11_splits 1 = .ok (.iconst 0, 1) := by decide +kernel
theorem dX11_splits_2 : decode cX11_splits 2 = .ok (.putfield 149, 3) := by decide +kernel
theorem dX11_splits_5 : decode cX11_splits 5 = .ok (.iconst 0, 1) := by decide +kernel
theorem dX11_splits_6 : decode cX11_splits 6 = .ok (.istore_n 2, 1) := by decide +kernel
theorem dX11_splits_7 : decode cX11_splits 7 = .ok (.iload_n 2, 1) := by decide +kernel
theorem dX11_splits_8 : decode cX11_splits 8 = .ok (.iload_n 1, 1) := by decide +kernel
theorem dX11_splits_9 : decode cX11_splits 9 = .ok (.if_icmp .ge 254, 3) := by decide +kernel
theorem dX11_splits_12 : decode cX11_splits 12 = .ok (.aload_n 0, 1) := by decide +kernel
theorem dX11_splits_13 : decode cX11_splits 13 = .ok (.getfield 41, 3) := by decide +kernel
theorem dX11_splits_16 : decode cX11_splits 16 = .ok (.iload_n 2, 1) := by decide +kernel
theorem dX11_splits_17 : decode cX11_splits 17 = .ok (.baload, 1) := by decide +kernel
theorem dX11_splits_18 : decode cX11_splits 18 = .ok (.istore_n 3, 1) := by decide +kernel
theorem dX11_splits_19 : decode cX11_splits 19 = .ok (.iload_n 3, 1) := by decide +kernel
theorem dX11_splits_20 : decode cX11_splits 20 = .ok (.bipush 32, 2) := by decide +kernel
theorem dX11_splits_22 : decode cX11_splits 22 = .ok (.if_icmp .ne 9, 3) := by decide +kernel
theorem dX11_splits_25 : decode cX11_splits 25 = .ok (.iinc 2 1, 3) := by decide +kernel
theorem dX11_splits_28 : decode cX11_splits 28 = .ok (.goto (-21), 3) := by decide +kernel
theorem dX11_splits_31 : decode cX11_splits 31 = .ok (.iload_n 2, 1) := by decide +kernel
theorem dX11_splits_32 : decode cX11_splits 32 = .ok (.iconst 1, 1) := by decide +kernel
theorem dX11_splits_33 : decode cX11_splits 33 = .ok (.iadd, 1) := by decide +kernel
theorem dX11_splits_34 : decode cX11_splits 34 = .ok (.istore 4, 2) := by decide +kernel
theorem dX11_splits_36 : decode cX11_splits 36 = .ok (.iload_n 3, 1) := by decide +kernel
theorem dX11_splits_37 : decode cX11_splits 37 = .ok (.invokestatic 152, 3) := by decide +kernel
theorem dX11_splits_40 : decode cX11_splits 40 = .ok (.ifCond .eq 28, 3) := by decide +kernel
theorem dX11_splits_43 : decode cX11_splits 43 = .ok (.iload 4, 2) := by decide +kernel
theorem dX11_splits_45 : decode cX11_splits 45 = .ok (.iload_n 1, 1) := by decide +kernel
theorem dX11_splits_46 : decode cX11_splits 46 = .ok (.if_icmp .ge 22, 3) := by decide +kernel
theorem dX11_splits_49 : decode cX11_splits 49 = .ok (.aload_n 0, 1) := by decide +kernel
theorem dX11_splits_50 : decode cX11_splits 50 = .ok (.getfield 41, 3) := by decide +kernel
theorem dX11_splits_53 : decode cX11_splits 53 = .ok (.iload 4, 2) := by decide +kernel
theorem dX11_splits_55 : decode cX11_splits 55 = .ok (.baload, 1) := by decide +kernel
theorem dX11_splits_56 : decode cX11_splits 56 = .ok (.invokestatic 152, 3) := by decide +kernel
theorem dX11_splits_59 : decode cX11_splits 59 = .ok (.ifCond .eq 9, 3) := by decide +kernel
theorem dX11_splits_62 : decode cX11_splits 62 = .ok (.iinc 4 1, 3) := by decide +kernel
theorem dX11_splits_65 : decode cX11_splits 65 = .ok (.goto (-22), 3) := by decide +kernel
theorem dX11_splits_68 : decode cX11_splits 68 = .ok (.iload_n 3, 1) := by decide +kernel
theorem dX11_splits_69 : decode cX11_splits 69 = .ok (.invokestatic 155, 3) := by decide +kernel
theorem dX11_splits_72 : decode cX11_splits 72 = .ok (.ifCond .eq 28, 3) := by decide +kernel
theorem dX11_splits_75 : decode cX11_splits 75 = .ok (.iload 4, 2) := by decide +kernel
theorem dX11_splits_77 : decode cX11_splits 77 = .ok (.iload_n 1, 1) := by decide +kernel
theorem dX11_splits_78 : decode cX11_splits 78 = .ok (.if_icmp .ge 22, 3) := by decide +kernel
theorem dX11_splits_81 : decode cX11_splits 81 = .ok (.aload_n 0, 1) := by decide +kernel
theorem dX11_splits_82 : decode cX11_splits 82 = .ok (.getfield 41, 3) := by decide +kernel
theorem dX11_splits_85 : decode cX11_splits 85 = .ok (.iload 4, 2) := by decide +kernel
theorem dX11_splits_87 : decode cX11_splits 87 = .ok (.baload, 1) := by decide +kernel
theorem dX11_splits_88 : decode cX11_splits 88 = .ok (.invokestatic 155, 3) := by decide +kernel
theorem dX11_splits_91 : decode cX11_splits 91 = .ok (.ifCond .eq 9, 3) := by decide +kernel
theorem dX11_splits_94 : decode cX11_splits 94 = .ok (.iinc 4 1, 3) := by decide +kernel
theorem dX11_splits_97 : decode cX11_splits 97 = .ok (.goto (-22), 3) := by decide +kernel
theorem dX11_splits_100 : decode cX11_splits 100 = .ok (.aload_n 0, 1) := by decide +kernel
theorem dX11_splits_101 : decode cX11_splits 101 = .ok (.getfield 56, 3) := by decide +kernel
theorem dX11_splits_104 : decode cX11_splits 104 = .ok (.aload_n 0, 1) := by decide +kernel
theorem dX11_splits_105 : decode cX11_splits 105 = .ok (.getfield 149, 3) := by decide +kernel
theorem dX11_splits_108 : decode cX11_splits 108 = .ok (.iload_n 2, 1) := by decide +kernel
theorem dX11_splits_109 : decode cX11_splits 109 = .ok (.iastore, 1) := by decide +kernel
theorem dX11_splits_110 : decode cX11_splits 110 = .ok (.aload_n 0, 1) := by decide +kernel
theorem dX11_splits_111 : decode cX11_splits 111 = .ok (.getfield 53, 3) := by decide +kernel
theorem dX11_splits_114 : decode cX11_splits 114 = .ok (.aload_n 0, 1) := by decide +kernel
theorem dX11_splits_115 : decode cX11_splits 115 = .ok (.getfield 149, 3) := by decide +kernel
theorem dX11_splits_118 : decode cX11_splits 118 = .ok (.iconst 0, 1) := by decide +kernel
theorem dX11_splits_119 : decode cX11_splits 119 = .ok (.iastore, 1) := by decide +kernel
theorem dX11_splits_120 : decode cX11_splits 120 = .ok (.aload_n 0, 1) := by decide +kernel
theorem dX11_splits_121 : decode cX11_splits 121 = .ok (.getfield 50, 3) := by decide +kernel
theorem dX11_splits_124 : decode cX11_splits 124 = .ok (.aload_n 0, 1) := by decide +kernel
theorem dX11_splits_125 : decode cX11_splits 125 = .ok (.getfield 149, 3) := by decide +kernel
theorem dX11_splits_128 : decode cX11_splits 128 = .ok (.iload_n 3, 1) := by decide +kernel
theorem dX11_splits_129 : decode cX11_splits 129 = .ok (.invokestatic 152, 3) := by decide +kernel
theorem dX11_splits_132 : decode cX11_splits 132 = .ok (.ifCond .eq 13, 3) := by decide +kernel
theorem dX11_splits_135 : decode cX11_splits 135 = .ok (.aload_n 0, 1) := by decide +kernel
theorem dX11_splits_136 : decode cX11_splits 136 = .ok (.iload_n 2, 1) := by decide +kernel
theorem dX11_splits_137 : decode cX11_splits 137 = .ok (.iload 4, 2) := by decide +kernel
theorem dX11_splits_139 : decode cX11_splits 139 = .ok (.invokevirtual 158, 3) := by decide +kernel
theorem dX11_splits_142 : decode cX11_splits 142 = .ok (.goto 23, 3) := by decide +kernel
theorem dX11_splits_145 : decode cX11_splits 145 = .ok (.iload_n 3, 1) := by decide +kernel
theorem dX11_splits_146 : decode cX11_splits 146 = .ok (.invokestatic 155, 3) := by decide +kernel
theorem dX11_splits_149 : decode cX11_splits 149 = .ok (.ifCond .eq 8, 3) := by decide +kernel
theorem dX11_splits_152 : decode cX11_splits 152 = .ok (.bipush 50, 2) := by decide +kernel
theorem dX11_splits_154 : decode cX11_splits 154 = .ok (.goto 11, 3) := by decide +kernel
theorem dX11_splits_157 : decode cX11_splits 157 = .ok (.bipush 100, 2) := by decide +kernel
theorem dX11_splits_159 : decode cX11_splits 159 = .ok (.iload_n 3, 1) := by decide +kernel
theorem dX11_splits_160 : decode cX11_splits 160 = .ok (.sipush 255, 3) := by decide +kernel
theorem dX11_splits_163 : decode cX11_splits 163 = .ok (.iand, 1) := by decide +kernel
theorem dX11_splits_164 : decode cX11_splits 164 = .ok (.iadd, 1) := by decide +kernel
theorem dX11_splits_165 : decode cX11_splits 165 = .ok (.iastore, 1) := by decide +kernel
theorem dX11_splits_166 : decode cX11_splits 166 = .ok (.iload_n 2, 1) := by decide +kernel
theorem dX11_splits_167 : decode cX11_splits 167 = .ok (.istore 5, 2) := by decide +kernel
theorem dX11_splits_169 : decode cX11_splits 169 = .ok (.iload 5, 2) := by decide +kernel
theorem dX11_splits_171 : decode cX11_splits 171 = .ok (.iload 4, 2) := by decide +kernel
theorem dX11_splits_173 : decode cX11_splits 173 = .ok (.if_icmp .ge 74, 3) := by decide +kernel
theorem dX11_splits_176 : decode cX11_splits 176 = .ok (.iload_n 3, 1) := by decide +kernel
theorem dX11_splits_177 : decode cX11_splits 177 = .ok (.invokestatic 155, 3) := by decide +kernel
theorem dX11_splits_180 : decode cX11_splits 180 = .ok (.ifCond .eq 67, 3) := by decide +kernel
theorem dX11_splits_183 : decode cX11_splits 183 = .ok (.aload_n 0, 1) := by decide +kernel
theorem dX11_splits_184 : decode cX11_splits 184 = .ok (.getfield 53, 3) := by decide +kernel
theorem dX11_splits_187 : decode cX11_splits 187 = .ok (.aload_n 0, 1) := by decide +kernel
theorem dX11_splits_188 : decode cX11_splits 188 = .ok (.getfield 149, 3) := by decide +kernel
theorem dX11_splits_191 : decode cX11_splits 191 = .ok (.aload_n 0, 1) := by decide +kernel
theorem dX11_splits_192 : decode cX11_splits 192 = .ok (.getfield 53, 3) := by decide +kernel
theorem dX11_splits_195 : decode cX11_splits 195 = .ok (.aload_n 0, 1) := by decide +kernel
theorem dX11_splits_196 : decode cX11_splits 196 = .ok (.getfield 149, 3) := by decide +kernel
theorem dX11_splits_199 : decode cX11_splits 199 = .ok (.iaload, 1) := by decide +kernel
theorem dX11_splits_200 : decode cX11_splits 200 = .ok (.ldc 161, 2) := by decide +kernel
theorem dX11_splits_202 : decode cX11_splits 202 = .ok (.if_icmp .le 15, 3) := by decide +kernel
theorem dX11_splits_205 : decode cX11_splits 205 = .ok (.aload_n 0, 1) := by decide +kernel
theorem dX11_splits_206 : decode cX11_splits 206 = .ok (.getfield 53, 3) := by decide +kernel
theorem dX11_splits_209 : decode cX11_splits 209 = .ok (.aload_n 0, 1) := by decide +kernel
theorem dX11_splits_210 : decode cX11_splits 210 = .ok (.getfield 149, 3) := by decide +kernel
theorem dX11_splits_213 : decode cX11_splits 213 = .ok (.iaload, 1) := by decide +kernel
theorem dX11_splits_214 : decode cX11_splits 214 = .ok (.goto 26, 3) := by decide +kernel
theorem dX11_splits_217 : decode cX11_splits 217 = .ok (.bipush 10, 2) := by decide +kernel
theorem dX11_splits_219 : decode cX11_splits 219 = .ok (.aload_n 0, 1) := by decide +kernel
theorem dX11_splits_220 : decode cX11_splits 220 = .ok (.getfield 53, 3) := by decide +kernel
theorem dX11_splits_223 : decode cX11_splits 223 = .ok (.aload_n 0, 1) := by decide +kernel
theorem dX11_splits_224 : decode cX11_splits 224 = .ok (.getfield 149, 3) := by decide +kernel
theorem dX11_splits_227 : decode cX11_splits 227 = .ok (.iaload, 1) := by decide +kernel
theorem dX11_splits_228 : decode cX11_splits 228 = .ok (.imul, 1) := by decide +kernel
theorem dX11_splits_229 : decode cX11_splits 229 = .ok (.aload_n 0, 1) := by decide +kernel
theorem dX11_splits_230 : decode cX11_splits 230 = .ok (.getfield 41, 3) := by decide +kernel
theorem dX11_splits_233 : decode cX11_splits 233 = .ok (.iload 5, 2) := by decide +kernel
theorem dX11_splits_235 : decode cX11_splits 235 = .ok (.baload, 1) := by decide +kernel
theorem dX11_splits_236 : decode cX11_splits 236 = .ok (.iadd, 1) := by decide +kernel
theorem dX11_splits_237 : decode cX11_splits 237 = .ok (.bipush 48, 2) := by decide +kernel
theorem dX11_splits_239 : decode cX11_splits 239 = .ok (.isub, 1) := by decide +kernel
theorem dX11_splits_240 : decode cX11_splits 240 = .ok (.iastore, 1) := by decide +kernel
theorem dX11_splits_241 : decode cX11_splits 241 = .ok (.iinc 5 1, 3) := by decide +kernel
theorem dX11_splits_244 : decode cX11_splits 244 = .ok (.goto (-75), 3) := by decide +kernel
theorem dX11_splits_247 : decode cX11_splits 247 = .ok (.aload_n 0, 1) := by decide +kernel
theorem dX11_splits_248 : decode cX11_splits 248 = .ok (.dup, 1) := by decide +kernel
theorem dX11_splits_249 : decode cX11_splits 249 = .ok (.getfield 149, 3) := by decide +kernel
theorem dX11_splits_252 : decode cX11_splits 252 = .ok (.iconst 1, 1) := by decide +kernel
theorem dX11_splits_253 : decode cX11_splits 253 = .ok (.iadd, 1) := by decide +kernel
theorem dX11_splits_254 : decode cX11_splits 254 = .ok (.putfield 149, 3) := by decide +kernel
theorem dX11_splits_257 : decode cX11_splits 257 = .ok (.iload 4, 2) := by decide +kernel
theorem dX11_splits_259 : decode cX11_splits 259 = .ok (.istore_n 2, 1) := by decide +kernel
theorem dX11_splits_260 : decode cX11_splits 260 = .ok (.goto (-253), 3) := by decide +kernel
theorem dX11_splits_263 : decode cX11_splits 263 = .ok (.aload_n 0, 1) := by decide +kernel
theorem dX11_splits_264 : decode cX11_splits 264 = .ok (.getfield 56, 3) := by decide +kernel
theorem dX11_splits_267 : decode cX11_splits 267 = .ok (.aload_n 0, 1) := by decide +kernel
theorem dX11_splits_268 : decode cX11_splits 268 = .ok (.getfield 149, 3) := by decide +kernel
theorem dX11_splits_271 : decode cX11_splits 271 = .ok (.iload_n 1, 1) := by decide +kernel
theorem dX11_splits_272 : decode cX11_splits 272 = .ok (.iastore, 1) := by decide +kernel
theorem dX11_splits_273 : decode cX11_splits 273 = .ok (.aload_n 0, 1) := by decide +kernel
theorem dX11_splits_274 : decode cX11_splits 274 = .ok (.getfield 50, 3) := by decide +kernel
theorem dX11_splits_277 : decode cX11_splits 277 = .ok (.aload_n 0, 1) := by decide +kernel
theorem dX11_splits_278 : decode cX11_splits 278 = .ok (.getfield 149, 3) := by decide +kernel
theorem dX11_splits_281 : decode cX11_splits 281 = .ok (.iconst 0, 1) := by decide +kernel
theorem dX11_splits_282 : decode cX11_splits 282 = .ok (.iastore, 1) := by decide +kernel
theorem dX11_splits_283 : decode cX11_splits 283 = .ok (.aload_n 0, 1) := by decide +kernel
theorem dX11_splits_284 : decode cX11_splits 284 = .ok (.getfield 53, 3) := by decide +kernel
theorem dX11_splits_287 : decode cX11_splits 287 = .ok (.aload_n 0, 1) := by decide +kernel
theorem dX11_splits_288 : decode cX11_splits 288 = .ok (.getfield 149, 3) := by decide +kernel
theorem dX11_splits_291 : decode cX11_splits 291 = .ok (.iconst 0, 1) := by decide +kernel
theorem dX11_splits_292 : decode cX11_splits 292 = .ok (.iastore, 1) := by decide +kernel
theorem dX11_splits_293 : decode cX11_splits 293 = .ok (.return_, 1) := by decide +kernel
theorem dX11_fine_0 : decode cX11_fine 0 = .ok (.aload_n 0, 1) := by decide +kernel
theorem dX11_fine_1 : decode cX11_fine 1 = .ok (.getfield 162, 3) := by decide +kernel
theorem dX11_fine_4 : decode cX11_fine 4 = .ok (.iconst (-1), 1) := by decide +kernel
theorem dX11_fine_5 : decode cX11_fine 5 = .ok (.if_icmp .ne 7, 3) := by decide +kernel
theorem dX11_fine_8 : decode cX11_fine 8 = .ok (.iconst 1, 1) := by decide +kernel
theorem dX11_fine_9 : decode cX11_fine 9 = .ok (.goto 4, 3) := by decide +kernel
theorem dX11_fine_12 : decode cX11_fine 12 = .ok (.iconst 0, 1) := by decide +kernel
theorem dX11_fine_13 : decode cX11_fine 13 = .ok (.ireturn, 1) := by decide +kernel
theorem dX11_faults_0 : decode cX11_faults 0 = .ok (.aload_n 0, 1) := by decide +kernel
theorem dX11_faults_1 : decode cX11_faults 1 = .ok (.invokevirtual 165, 3) := by decide +kernel
theorem dX11_faults_4 : decode cX11_faults 4 = .ok (.ifCond .eq 16, 3) := by decide +kernel
theorem dX11_faults_7 : decode cX11_faults 7 = .ok (.aload_n 0, 1) := by decide +kernel
theorem dX11_faults_8 : decode cX11_faults 8 = .ok (.aload_n 0, 1) := by decide +kernel
theorem dX11_faults_9 : decode cX11_faults 9 = .ok (.getfield 56, 3) := by decide +kernel
theorem dX11_faults_12 : decode cX11_faults 12 = .ok (.aload_n 0, 1) := by decide +kernel
theorem dX11_faults_13 : decode cX11_faults 13 = .ok (.getfield 169, 3) := by decide +kernel
theorem dX11_faults_16 : decode cX11_faults 16 = .ok (.iaload, 1) := by decide +kernel
theorem dX11_faults_17 : decode cX11_faults 17 = .ok (.putfield 162, 3) := by decide +kernel
theorem dX11_faults_20 : decode cX11_faults 20 = .ok (.return_, 1) := by decide +kernel
theorem dX11_takes0_0 : decode cX11_takes0 0 = .ok (.aload_n 0, 1) := by decide +kernel
theorem dX11_takes0_1 : decode cX11_takes0 1 = .ok (.invokevirtual 165, 3) := by decide +kernel
theorem dX11_takes0_4 : decode cX11_takes0 4 = .ok (.ifCond .eq 20, 3) := by decide +kernel
theorem dX11_takes0_7 : decode cX11_takes0 7 = .ok (.aload_n 0, 1) := by decide +kernel
theorem dX11_takes0_8 : decode cX11_takes0 8 = .ok (.getfield 50, 3) := by decide +kernel
theorem dX11_takes0_11 : decode cX11_takes0 11 = .ok (.aload_n 0, 1) := by decide +kernel
theorem dX11_takes0_12 : decode cX11_takes0 12 = .ok (.getfield 169, 3) := by decide +kernel
theorem dX11_takes0_15 : decode cX11_takes0 15 = .ok (.iaload, 1) := by decide +kernel
theorem dX11_takes0_16 : decode cX11_takes0 16 = .ok (.iload_n 1, 1) := by decide +kernel
theorem dX11_takes0_17 : decode cX11_takes0 17 = .ok (.if_icmp .ne 7, 3) := by decide +kernel
theorem dX11_takes0_20 : decode cX11_takes0 20 = .ok (.iconst 1, 1) := by decide +kernel
theorem dX11_takes0_21 : decode cX11_takes0 21 = .ok (.goto 4, 3) := by decide +kernel
theorem dX11_takes0_24 : decode cX11_takes0 24 = .ok (.iconst 0, 1) := by decide +kernel
theorem dX11_takes0_25 : decode cX11_takes0 25 = .ok (.istore_n 2, 1) := by decide +kernel
theorem dX11_takes0_26 : decode cX11_takes0 26 = .ok (.iload_n 2, 1) := by decide +kernel
theorem dX11_takes0_27 : decode cX11_takes0 27 = .ok (.ifCond .eq 13, 3) := by decide +kernel
theorem dX11_takes0_30 : decode cX11_takes0 30 = .ok (.aload_n 0, 1) := by decide +kernel
theorem dX11_takes0_31 : decode cX11_takes0 31 = .ok (.dup, 1) := by decide +kernel
theorem dX11_takes0_32 : decode cX11_takes0 32 = .ok (.getfield 169, 3) := by decide +kernel
theorem dX11_takes0_35 : decode cX11_takes0 35 = .ok (.iconst 1, 1) := by decide +kernel
theorem dX11_takes0_36 : decode cX11_takes0 36 = .ok (.iadd, 1) := by decide +kernel
theorem dX11_takes0_37 : decode cX11_takes0 37 = .ok (.putfield 169, 3) := by decide +kernel
theorem dX11_takes0_40 : decode cX11_takes0 40 = .ok (.iload_n 2, 1) := by decide +kernel
theorem dX11_takes0_41 : decode cX11_takes0 41 = .ok (.ireturn, 1) := by decide +kernel
theorem dX11_must_0 : decode cX11_must 0 = .ok (.aload_n 0, 1) := by decide +kernel
theorem dX11_must_1 : decode cX11_must 1 = .ok (.iload_n 1, 1) := by decide +kernel
theorem dX11_must_2 : decode cX11_must 2 = .ok (.invokevirtual 172, 3) := by decide +kernel
theorem dX11_must_5 : decode cX11_must 5 = .ok (.ifCond .ne 7, 3) := by decide +kernel
theorem dX11_must_8 : decode cX11_must 8 = .ok (.aload_n 0, 1) := by decide +kernel
theorem dX11_must_9 : decode cX11_must 9 = .ok (.invokevirtual 175, 3) := by decide +kernel
theorem dX11_must_12 : decode cX11_must 12 = .ok (.return_, 1) := by decide +kernel
theorem dX11_leaf_0 : decode cX11_leaf 0 = .ok (.aload_n 0, 1) := by decide +kernel
theorem dX11_leaf_1 : decode cX11_leaf 1 = .ok (.getfield 178, 3) := by decide +kernel
theorem dX11_leaf_4 : decode cX11_leaf 4 = .ok (.bipush 50, 2) := by decide +kernel
theorem dX11_leaf_6 : decode cX11_leaf 6 = .ok (.if_icmp .ne 7, 3) := by decide +kernel
theorem dX11_leaf_9 : decode cX11_leaf 9 = .ok (.aload_n 0, 1) := by decide +kernel
theorem dX11_leaf_10 : decode cX11_leaf 10 = .ok (.invokevirtual 175, 3) := by decide +kernel
theorem dX11_leaf_13 : decode cX11_leaf 13 = .ok (.aload_n 0, 1) := by decide +kernel
theorem dX11_leaf_14 : decode cX11_leaf 14 = .ok (.dup, 1) := by decide +kernel
theorem dX11_leaf_15 : decode cX11_leaf 15 = .ok (.getfield 178, 3) := by decide +kernel
theorem dX11_leaf_18 : decode cX11_leaf 18 = .ok (.iconst 1, 1) := by decide +kernel
theorem dX11_leaf_19 : decode cX11_leaf 19 = .ok (.iadd, 1) := by decide +kernel
theorem dX11_leaf_20 : decode cX11_leaf 20 = .ok (.putfield 178, 3) := by decide +kernel
theorem dX11_leaf_23 : decode cX11_leaf 23 = .ok (.aload_n 0, 1) := by decide +kernel
theorem dX11_leaf_24 : decode cX11_leaf 24 = .ok (.invokevirtual 165, 3) := by decide +kernel
theorem dX11_leaf_27 : decode cX11_leaf 27 = .ok (.ifCond .eq 13, 3) := by decide +kernel
theorem dX11_leaf_30 : decode cX11_leaf 30 = .ok (.aload_n 0, 1) := by decide +kernel
theorem dX11_leaf_31 : decode cX11_leaf 31 = .ok (.dup, 1) := by decide +kernel
theorem dX11_leaf_32 : decode cX11_leaf 32 = .ok (.getfield 169, 3) := by decide +kernel
theorem dX11_leaf_35 : decode cX11_leaf 35 = .ok (.iconst 1, 1) := by decide +kernel
theorem dX11_leaf_36 : decode cX11_leaf 36 = .ok (.iadd, 1) := by decide +kernel
theorem dX11_leaf_37 : decode cX11_leaf 37 = .ok (.putfield 169, 3) := by decide +kernel
theorem dX11_leaf_40 : decode cX11_leaf 40 = .ok (.return_, 1) := by decide +kernel
theorem dX11_signOf_0 : decode cX11_signOf 0 = .ok (.bipush 100, 2) := by decide +kernel
theorem dX11_signOf_2 : decode cX11_signOf 2 = .ok (.iload_n 0, 1) := by decide +kernel
theorem dX11_signOf_3 : decode cX11_signOf 3 = .ok (.iadd, 1) := by decide +kernel
theorem dX11_signOf_4 : decode cX11_signOf 4 = .ok (.ireturn, 1) := by decide +kernel
theorem dX11_mustNumber_0 : decode cX11_mustNumber 0 = .ok (.aload_n 0, 1) := by decide +kernel
theorem dX11_mustNumber_1 : decode cX11_mustNumber 1 = .ok (.invokevirtual 165, 3) := by decide +kernel
theorem dX11_mustNumber_4 : decode cX11_mustNumber 4 = .ok (.ifCond .eq 38, 3) := by decide +kernel
theorem dX11_mustNumber_7 : decode cX11_mustNumber 7 = .ok (.aload_n 0, 1) := by decide +kernel
theorem dX11_mustNumber_8 : decode cX11_mustNumber 8 = .ok (.getfield 50, 3) := by decide +kernel
theorem dX11_mustNumber_11 : decode cX11_mustNumber 11 = .ok (.aload_n 0, 1) := by decide +kernel
theorem dX11_mustNumber_12 : decode cX11_mustNumber 12 = .ok (.getfield 169, 3) := by decide +kernel
theorem dX11_mustNumber_15 : decode cX11_mustNumber 15 = .ok (.iaload, 1) := by decide +kernel
theorem dX11_mustNumber_16 : decode cX11_mustNumber 16 = .ok (.bipush 50, 2) := by decide +kernel
theorem dX11_mustNumber_18 : decode cX11_mustNumber 18 = .ok (.if_icmp .ne 20, 3) := by decide +kernel
theorem dX11_mustNumber_21 : decode cX11_mustNumber 21 = .ok (.aload_n 0, 1) := by decide +kernel
theorem dX11_mustNumber_22 : decode cX11_mustNumber 22 = .ok (.getfield 53, 3) := by decide +kernel
theorem dX11_mustNumber_25 : decode cX11_mustNumber 25 = .ok (.aload_n 0, 1) := by decide +kernel
theorem dX11_mustNumber_26 : decode cX11_mustNumber 26 = .ok (.getfield 169, 3) := by decide +kernel
theorem dX11_mustNumber_29 : decode cX11_mustNumber 29 = .ok (.iaload, 1) := by decide +kernel
theorem dX11_mustNumber_30 : decode cX11_mustNumber 30 = .ok (.iload_n 1, 1) := by decide +kernel
theorem dX11_mustNumber_31 : decode cX11_mustNumber 31 = .ok (.iload_n 2, 1) := by decide +kernel
theorem dX11_mustNumber_32 : decode cX11_mustNumber 32 = .ok (.invokestatic 90, 3) := by decide +kernel
theorem dX11_mustNumber_35 : decode cX11_mustNumber 35 = .ok (.ifCond .ne 7, 3) := by decide +kernel
theorem dX11_mustNumber_38 : decode cX11_mustNumber 38 = .ok (.aload_n 0, 1) := by decide +kernel
theorem dX11_mustNumber_39 : decode cX11_mustNumber 39 = .ok (.invokevirtual 175, 3) := by decide +kernel
theorem dX11_mustNumber_42 : decode cX11_mustNumber 42 = .ok (.aload_n 0, 1) := by decide +kernel
theorem dX11_mustNumber_43 : decode cX11_mustNumber 43 = .ok (.invokevirtual 165, 3) := by decide +kernel
theorem dX11_mustNumber_46 : decode cX11_mustNumber 46 = .ok (.ifCond .eq 13, 3) := by decide +kernel
theorem dX11_mustNumber_49 : decode cX11_mustNumber 49 = .ok (.aload_n 0, 1) := by decide +kernel
theorem dX11_mustNumber_50 : decode cX11_mustNumber 50 = .ok (.dup, 1) := by decide +kernel
theorem dX11_mustNumber_51 : decode cX11_mustNumber 51 = .ok (.getfield 169, 3) := by decide +kernel
theorem dX11_mustNumber_54 : decode cX11_mustNumber 54 = .ok (.iconst 1, 1) := by decide +kernel
theorem dX11_mustNumber_55 : decode cX11_mustNumber 55 = .ok (.iadd, 1) := by decide +kernel
theorem dX11_mustNumber_56 : decode cX11_mustNumber 56 = .ok (.putfield 169, 3) := by decide +kernel
theorem dX11_mustNumber_59 : decode cX11_mustNumber 59 = .ok (.return_, 1) := by decide +kernel
theorem dX11_readClause_0 : decode cX11_readClause 0 = .ok (.aload_n 0, 1) := by decide +kernel
theorem dX11_readClause_1 : decode cX11_readClause 1 = .ok (.iconst 1, 1) := by decide +kernel
theorem dX11_readClause_2 : decode cX11_readClause 2 = .ok (.invokevirtual 172, 3) := by decide +kernel
theorem dX11_readClause_5 : decode cX11_readClause 5 = .ok (.ifCond .ne 11, 3) := by decide +kernel
theorem dX11_readClause_8 : decode cX11_readClause 8 = .ok (.aload_n 0, 1) := by decide +kernel
theorem dX11_readClause_9 : decode cX11_readClause 9 = .ok (.iconst 2, 1) := by decide +kernel
theorem dX11_readClause_10 : decode cX11_readClause 10 = .ok (.invokevirtual 172, 3) := by decide +kernel
theorem dX11_readClause_13 : decode cX11_readClause 13 = .ok (.ifCond .eq 11, 3) := by decide +kernel
theorem dX11_readClause_16 : decode cX11_readClause 16 = .ok (.aload_n 0, 1) := by decide +kernel
theorem dX11_readClause_17 : decode cX11_readClause 17 = .ok (.iconst 0, 1) := by decide +kernel
theorem dX11_readClause_18 : decode cX11_readClause 18 = .ok (.invokevirtual 181, 3) := by decide +kernel
theorem dX11_readClause_21 : decode cX11_readClause 21 = .ok (.goto 8, 3) := by decide +kernel
theorem dX11_readClause_24 : decode cX11_readClause 24 = .ok (.aload_n 0, 1) := by decide +kernel
theorem dX11_readClause_25 : decode cX11_readClause 25 = .ok (.iconst 3, 1) := by decide +kernel
theorem dX11_readClause_26 : decode cX11_readClause 26 = .ok (.invokevirtual 185, 3) := by decide +kernel
theorem dX11_readClause_29 : decode cX11_readClause 29 = .ok (.aload_n 0, 1) := by decide +kernel
theorem dX11_readClause_30 : decode cX11_readClause 30 = .ok (.iconst 4, 1) := by decide +kernel
theorem dX11_readClause_31 : decode cX11_readClause 31 = .ok (.invokevirtual 172, 3) := by decide +kernel
theorem dX11_readClause_34 : decode cX11_readClause 34 = .ok (.ifCond .eq 8, 3) := by decide +kernel
theorem dX11_readClause_37 : decode cX11_readClause 37 = .ok (.aload_n 0, 1) := by decide +kernel
theorem dX11_readClause_38 : decode cX11_readClause 38 = .ok (.iconst 0, 1) := by decide +kernel
theorem dX11_readClause_39 : decode cX11_readClause 39 = .ok (.invokevirtual 188, 3) := by decide +kernel
theorem dX11_readClause_42 : decode cX11_readClause 42 = .ok (.return_, 1) := by decide +kernel
theorem dX11_readOrder_0 : decode cX11_readOrder 0 = .ok (.aload_n 0, 1) := by decide +kernel
theorem dX11_readOrder_1 : decode cX11_readOrder 1 = .ok (.bipush 21, 2) := by decide +kernel
theorem dX11_readOrder_3 : decode cX11_readOrder 3 = .ok (.invokevirtual 172, 3) := by decide +kernel
theorem dX11_readOrder_6 : decode cX11_readOrder 6 = .ok (.ifCond .eq 17, 3) := by decide +kernel
theorem dX11_readOrder_9 : decode cX11_readOrder 9 = .ok (.aload_n 0, 1) := by decide +kernel
theorem dX11_readOrder_10 : decode cX11_readOrder 10 = .ok (.iconst 0, 1) := by decide +kernel
theorem dX11_readOrder_11 : decode cX11_readOrder 11 = .ok (.invokevirtual 181, 3) := by decide +kernel
theorem dX11_readOrder_14 : decode cX11_readOrder 14 = .ok (.aload_n 0, 1) := by decide +kernel
theorem dX11_readOrder_15 : decode cX11_readOrder 15 = .ok (.bipush 22, 2) := by decide +kernel
theorem dX11_readOrder_17 : decode cX11_readOrder 17 = .ok (.invokevirtual 185, 3) := by decide +kernel
theorem dX11_readOrder_20 : decode cX11_readOrder 20 = .ok (.goto 41, 3) := by decide +kernel
theorem dX11_readOrder_23 : decode cX11_readOrder 23 = .ok (.aload_n 0, 1) := by decide +kernel
theorem dX11_readOrder_24 : decode cX11_readOrder 24 = .ok (.bipush 24, 2) := by decide +kernel
theorem dX11_readOrder_26 : decode cX11_readOrder 26 = .ok (.invokevirtual 172, 3) := by decide +kernel
theorem dX11_readOrder_29 : decode cX11_readOrder 29 = .ok (.ifCond .eq 17, 3) := by decide +kernel
theorem dX11_readOrder_32 : decode cX11_readOrder 32 = .ok (.aload_n 0, 1) := by decide +kernel
theorem dX11_readOrder_33 : decode cX11_readOrder 33 = .ok (.iconst 0, 1) := by decide +kernel
theorem dX11_readOrder_34 : decode cX11_readOrder 34 = .ok (.invokevirtual 181, 3) := by decide +kernel
theorem dX11_readOrder_37 : decode cX11_readOrder 37 = .ok (.aload_n 0, 1) := by decide +kernel
theorem dX11_readOrder_38 : decode cX11_readOrder 38 = .ok (.bipush 25, 2) := by decide +kernel
theorem dX11_readOrder_40 : decode cX11_readOrder 40 = .ok (.invokevirtual 185, 3) := by decide +kernel
theorem dX11_readOrder_43 : decode cX11_readOrder 43 = .ok (.goto 18, 3) := by decide +kernel
theorem dX11_readOrder_46 : decode cX11_readOrder 46 = .ok (.aload_n 0, 1) := by decide +kernel
theorem dX11_readOrder_47 : decode cX11_readOrder 47 = .ok (.bipush 23, 2) := by decide +kernel
theorem dX11_readOrder_49 : decode cX11_readOrder 49 = .ok (.invokevirtual 172, 3) := by decide +kernel
theorem dX11_readOrder_52 : decode cX11_readOrder 52 = .ok (.ifCond .ne 9, 3) := by decide +kernel
theorem dX11_readOrder_55 : decode cX11_readOrder 55 = .ok (.aload_n 0, 1) := by decide +kernel
theorem dX11_readOrder_56 : decode cX11_readOrder 56 = .ok (.bipush 26, 2) := by decide +kernel
theorem dX11_readOrder_58 : decode cX11_readOrder 58 = .ok (.invokevirtual 185, 3) := by decide +kernel
theorem dX11_readOrder_61 : decode cX11_readOrder 61 = .ok (.aload_n 0, 1) := by decide +kernel
theorem dX11_readOrder_62 : decode cX11_readOrder 62 = .ok (.iconst 0, 1) := by decide +kernel
theorem dX11_readOrder_63 : decode cX11_readOrder 63 = .ok (.invokevirtual 181, 3) := by decide +kernel
theorem dX11_readOrder_66 : decode cX11_readOrder 66 = .ok (.aload_n 0, 1) := by decide +kernel
theorem dX11_readOrder_67 : decode cX11_readOrder 67 = .ok (.bipush 27, 2) := by decide +kernel
theorem dX11_readOrder_69 : decode cX11_readOrder 69 = .ok (.invokevirtual 172, 3) := by decide +kernel
theorem dX11_readOrder_72 : decode cX11_readOrder 72 = .ok (.ifCond .eq 10, 3) := by decide +kernel
theorem dX11_readOrder_75 : decode cX11_readOrder 75 = .ok (.aload_n 0, 1) := by decide +kernel
theorem dX11_readOrder_76 : decode cX11_readOrder 76 = .ok (.iconst 1, 1) := by decide +kernel
theorem dX11_readOrder_77 : decode cX11_readOrder 77 = .ok (.bipush 20, 2) := by decide +kernel
theorem dX11_readOrder_79 : decode cX11_readOrder 79 = .ok (.invokevirtual 191, 3) := by decide +kernel
theorem dX11_readOrder_82 : decode cX11_readOrder 82 = .ok (.aload_n 0, 1) := by decide +kernel
theorem dX11_readOrder_83 : decode cX11_readOrder 83 = .ok (.iconst 4, 1) := by decide +kernel
theorem dX11_readOrder_84 : decode cX11_readOrder 84 = .ok (.invokevirtual 172, 3) := by decide +kernel
theorem dX11_readOrder_87 : decode cX11_readOrder 87 = .ok (.ifCond .eq 8, 3) := by decide +kernel
theorem dX11_readOrder_90 : decode cX11_readOrder 90 = .ok (.aload_n 0, 1) := by decide +kernel
theorem dX11_readOrder_91 : decode cX11_readOrder 91 = .ok (.iconst 0, 1) := by decide +kernel
theorem dX11_readOrder_92 : decode cX11_readOrder 92 = .ok (.invokevirtual 188, 3) := by decide +kernel
theorem dX11_readOrder_95 : decode cX11_readOrder 95 = .ok (.return_, 1) := by decide +kernel
theorem dX11_readOne_0 : decode cX11_readOne 0 = .ok (.aload_n 0, 1) := by decide +kernel
theorem dX11_readOne_1 : decode cX11_readOne 1 = .ok (.getfield 195, 3) := by decide +kernel
theorem dX11_readOne_4 : decode cX11_readOne 4 = .ok (.ifCond .eq 10, 3) := by decide +kernel
theorem dX11_readOne_7 : decode cX11_readOne 7 = .ok (.aload_n 0, 1) := by decide +kernel
theorem dX11_readOne_8 : decode cX11_readOne 8 = .ok (.invokevirtual 199, 3) := by decide +kernel
theorem dX11_readOne_11 : decode cX11_readOne 11 = .ok (.goto 7, 3) := by decide +kernel
theorem dX11_readOne_14 : decode cX11_readOne 14 = .ok (.aload_n 0, 1) := by decide +kernel
theorem dX11_readOne_15 : decode cX11_readOne 15 = .ok (.invokevirtual 202, 3) := by decide +kernel
theorem dX11_readOne_18 : decode cX11_readOne 18 = .ok (.return_, 1) := by decide +kernel
theorem dX11_readTest_0 : decode cX11_readTest 0 = .ok (.aload_n 0, 1) := by decide +kernel
theorem dX11_readTest_1 : decode cX11_readTest 1 = .ok (.iload_n 1, 1) := by decide +kernel
theorem dX11_readTest_2 : decode cX11_readTest 2 = .ok (.invokevirtual 205, 3) := by decide +kernel
theorem dX11_readTest_5 : decode cX11_readTest 5 = .ok (.aload_n 0, 1) := by decide +kernel
theorem dX11_readTest_6 : decode cX11_readTest 6 = .ok (.iconst 5, 1) := by decide +kernel
theorem dX11_readTest_7 : decode cX11_readTest 7 = .ok (.invokevirtual 172, 3) := by decide +kernel
theorem dX11_readTest_10 : decode cX11_readTest 10 = .ok (.ifCond .eq 11, 3) := by decide +kernel
theorem dX11_readTest_13 : decode cX11_readTest 13 = .ok (.aload_n 0, 1) := by decide +kernel
theorem dX11_readTest_14 : decode cX11_readTest 14 = .ok (.iload_n 1, 1) := by decide +kernel
theorem dX11_readTest_15 : decode cX11_readTest 15 = .ok (.invokevirtual 205, 3) := by decide +kernel
theorem dX11_readTest_18 : decode cX11_readTest 18 = .ok (.goto (-13), 3) := by decide +kernel
theorem dX11_readTest_21 : decode cX11_readTest 21 = .ok (.return_, 1) := by decide +kernel
theorem dX11_readBoth_0 : decode cX11_readBoth 0 = .ok (.aload_n 0, 1) := by decide +kernel
theorem dX11_readBoth_1 : decode cX11_readBoth 1 = .ok (.iload_n 1, 1) := by decide +kernel
theorem dX11_readBoth_2 : decode cX11_readBoth 2 = .ok (.invokevirtual 208, 3) := by decide +kernel
theorem dX11_readBoth_5 : decode cX11_readBoth 5 = .ok (.aload_n 0, 1) := by decide +kernel
theorem dX11_readBoth_6 : decode cX11_readBoth 6 = .ok (.bipush 6, 2) := by decide +kernel
theorem dX11_readBoth_8 : decode cX11_readBoth 8 = .ok (.invokevirtual 172, 3) := by decide +kernel
theorem dX11_readBoth_11 : decode cX11_readBoth 11 = .ok (.ifCond .eq 11, 3) := by decide +kernel
theorem dX11_readBoth_14 : decode cX11_readBoth 14 = .ok (.aload_n 0, 1) := by decide +kernel
theorem dX11_readBoth_15 : decode cX11_readBoth 15 = .ok (.iload_n 1, 1) := by decide +kernel
theorem dX11_readBoth_16 : decode cX11_readBoth 16 = .ok (.invokevirtual 208, 3) := by decide +kernel
theorem dX11_readBoth_19 : decode cX11_readBoth 19 = .ok (.goto (-14), 3) := by decide +kernel
theorem dX11_readBoth_22 : decode cX11_readBoth 22 = .ok (.return_, 1) := by decide +kernel
theorem dX11_readPlain_0 : decode cX11_readPlain 0 = .ok (.iconst 1, 1) := by decide +kernel
theorem dX11_readPlain_1 : decode cX11_readPlain 1 = .ok (.istore_n 2, 1) := by decide +kernel
theorem dX11_readPlain_2 : decode cX11_readPlain 2 = .ok (.iload_n 2, 1) := by decide +kernel
theorem dX11_readPlain_3 : decode cX11_readPlain 3 = .ok (.ifCond .eq 13, 3) := by decide +kernel
theorem dX11_readPlain_6 : decode cX11_readPlain 6 = .ok (.aload_n 0, 1) := by decide +kernel
theorem dX11_readPlain_7 : decode cX11_readPlain 7 = .ok (.bipush 7, 2) := by decide +kernel
theorem dX11_readPlain_9 : decode cX11_readPlain 9 = .ok (.invokevirtual 172, 3) := by decide +kernel
theorem dX11_readPlain_12 : decode cX11_readPlain 12 = .ok (.istore_n 2, 1) := by decide +kernel
theorem dX11_readPlain_13 : decode cX11_readPlain 13 = .ok (.goto (-11), 3) := by decide +kernel
theorem dX11_readPlain_16 : decode cX11_readPlain 16 = .ok (.aload_n 0, 1) := by decide +kernel
theorem dX11_readPlain_17 : decode cX11_readPlain 17 = .ok (.invokevirtual 165, 3) := by decide +kernel
theorem dX11_readPlain_20 : decode cX11_readPlain 20 = .ok (.ifCond .ne 4, 3) := by decide +kernel
theorem dX11_readPlain_23 : decode cX11_readPlain 23 = .ok (.return_, 1) := by decide +kernel
theorem dX11_readPlain_24 : decode cX11_readPlain 24 = .ok (.aload_n 0, 1) := by decide +kernel
theorem dX11_readPlain_25 : decode cX11_readPlain 25 = .ok (.getfield 50, 3) := by decide +kernel
theorem dX11_readPlain_28 : decode cX11_readPlain 28 = .ok (.aload_n 0, 1) := by decide +kernel
theorem dX11_readPlain_29 : decode cX11_readPlain 29 = .ok (.getfield 169, 3) := by decide +kernel
theorem dX11_readPlain_32 : decode cX11_readPlain 32 = .ok (.iaload, 1) := by decide +kernel
theorem dX11_readPlain_33 : decode cX11_readPlain 33 = .ok (.istore_n 3, 1) := by decide +kernel
theorem dX11_readPlain_34 : decode cX11_readPlain 34 = .ok (.iload_n 3, 1) := by decide +kernel
theorem dX11_readPlain_35 : decode cX11_readPlain 35 = .ok (.bipush 40, 2) := by decide +kernel
theorem dX11_readPlain_37 : decode cX11_readPlain 37 = .ok (.invokestatic 211, 3) := by decide +kernel
theorem dX11_readPlain_40 : decode cX11_readPlain 40 = .ok (.if_icmp .ne 50, 3) := by decide +kernel
theorem dX11_readPlain_43 : decode cX11_readPlain 43 = .ok (.iload_n 1, 1) := by decide +kernel
theorem dX11_readPlain_44 : decode cX11_readPlain 44 = .ok (.bipush 8, 2) := by decide +kernel
theorem dX11_readPlain_46 : decode cX11_readPlain 46 = .ok (.if_icmp .ne 7, 3) := by decide +kernel
theorem dX11_readPlain_49 : decode cX11_readPlain 49 = .ok (.aload_n 0, 1) := by decide +kernel
theorem dX11_readPlain_50 : decode cX11_readPlain 50 = .ok (.invokevirtual 175, 3) := by decide +kernel
theorem dX11_readPlain_53 : decode cX11_readPlain 53 = .ok (.aload_n 0, 1) := by decide +kernel
theorem dX11_readPlain_54 : decode cX11_readPlain 54 = .ok (.invokevirtual 165, 3) := by decide +kernel
theorem dX11_readPlain_57 : decode cX11_readPlain 57 = .ok (.ifCond .ne 4, 3) := by decide +kernel
theorem dX11_readPlain_60 : decode cX11_readPlain 60 = .ok (.return_, 1) := by decide +kernel
theorem dX11_readPlain_61 : decode cX11_readPlain 61 = .ok (.aload_n 0, 1) := by decide +kernel
theorem dX11_readPlain_62 : decode cX11_readPlain 62 = .ok (.dup, 1) := by decide +kernel
theorem dX11_readPlain_63 : decode cX11_readPlain 63 = .ok (.getfield 169, 3) := by decide +kernel
theorem dX11_readPlain_66 : decode cX11_readPlain 66 = .ok (.iconst 1, 1) := by decide +kernel
theorem dX11_readPlain_67 : decode cX11_readPlain 67 = .ok (.iadd, 1) := by decide +kernel
theorem dX11_readPlain_68 : decode cX11_readPlain 68 = .ok (.putfield 169, 3) := by decide +kernel
theorem dX11_readPlain_71 : decode cX11_readPlain 71 = .ok (.aload_n 0, 1) := by decide +kernel
theorem dX11_readPlain_72 : decode cX11_readPlain 72 = .ok (.iload_n 1, 1) := by decide +kernel
theorem dX11_readPlain_73 : decode cX11_readPlain 73 = .ok (.iconst 1, 1) := by decide +kernel
theorem dX11_readPlain_74 : decode cX11_readPlain 74 = .ok (.iadd, 1) := by decide +kernel
theorem dX11_readPlain_75 : decode cX11_readPlain 75 = .ok (.invokevirtual 188, 3) := by decide +kernel
theorem dX11_readPlain_78 : decode cX11_readPlain 78 = .ok (.aload_n 0, 1) := by decide +kernel
theorem dX11_readPlain_79 : decode cX11_readPlain 79 = .ok (.bipush 41, 2) := by decide +kernel
theorem dX11_readPlain_81 : decode cX11_readPlain 81 = .ok (.invokestatic 211, 3) := by decide +kernel
theorem dX11_readPlain_84 : decode cX11_readPlain 84 = .ok (.invokevirtual 185, 3) := by decide +kernel
theorem dX11_readPlain_87 : decode cX11_readPlain 87 = .ok (.goto 46, 3) := by decide +kernel
theorem dX11_readPlain_90 : decode cX11_readPlain 90 = .ok (.aload_n 0, 1) := by decide +kernel
theorem dX11_readPlain_91 : decode cX11_readPlain 91 = .ok (.iload_n 1, 1) := by decide +kernel
theorem dX11_readPlain_92 : decode cX11_readPlain 92 = .ok (.invokevirtual 181, 3) := by decide +kernel
theorem dX11_readPlain_95 : decode cX11_readPlain 95 = .ok (.aload_n 0, 1) := by decide +kernel
theorem dX11_readPlain_96 : decode cX11_readPlain 96 = .ok (.bipush 60, 2) := by decide +kernel
theorem dX11_readPlain_98 : decode cX11_readPlain 98 = .ok (.invokestatic 211, 3) := by decide +kernel
theorem dX11_readPlain_101 : decode cX11_readPlain 101 = .ok (.invokevirtual 172, 3) := by decide +kernel
theorem dX11_readPlain_104 : decode cX11_readPlain 104 = .ok (.ifCond .ne 24, 3) := by decide +kernel
theorem dX11_readPlain_107 : decode cX11_readPlain 107 = .ok (.aload_n 0, 1) := by decide +kernel
theorem dX11_readPlain_108 : decode cX11_readPlain 108 = .ok (.bipush 62, 2) := by decide +kernel
theorem dX11_readPlain_110 : decode cX11_readPlain 110 = .ok (.invokestatic 211, 3) := by decide +kernel
theorem dX11_readPlain_113 : decode cX11_readPlain 113 = .ok (.invokevirtual 172, 3) := by decide +kernel
theorem dX11_readPlain_116 : decode cX11_readPlain 116 = .ok (.ifCond .ne 12, 3) := by decide +kernel
theorem dX11_readPlain_119 : decode cX11_readPlain 119 = .ok (.aload_n 0, 1) := by decide +kernel
theorem dX11_readPlain_120 : decode cX11_readPlain 120 = .ok (.bipush 61, 2) := by decide +kernel
theorem dX11_readPlain_122 : decode cX11_readPlain 122 = .ok (.invokestatic 211, 3) := by decide +kernel
theorem dX11_readPlain_125 : decode cX11_readPlain 125 = .ok (.invokevirtual 185, 3) := by decide +kernel
theorem dX11_readPlain_128 : decode cX11_readPlain 128 = .ok (.aload_n 0, 1) := by decide +kernel
theorem dX11_readPlain_129 : decode cX11_readPlain 129 = .ok (.iload_n 1, 1) := by decide +kernel
theorem dX11_readPlain_130 : decode cX11_readPlain 130 = .ok (.invokevirtual 181, 3) := by decide +kernel
theorem dX11_readPlain_133 : decode cX11_readPlain 133 = .ok (.return_, 1) := by decide +kernel
theorem dX11_readSum_0 : decode cX11_readSum 0 = .ok (.aload_n 0, 1) := by decide +kernel
theorem dX11_readSum_1 : decode cX11_readSum 1 = .ok (.iload_n 1, 1) := by decide +kernel
theorem dX11_readSum_2 : decode cX11_readSum 2 = .ok (.invokevirtual 215, 3) := by decide +kernel
theorem dX11_readSum_5 : decode cX11_readSum 5 = .ok (.aload_n 0, 1) := by decide +kernel
theorem dX11_readSum_6 : decode cX11_readSum 6 = .ok (.bipush 43, 2) := by decide +kernel
theorem dX11_readSum_8 : decode cX11_readSum 8 = .ok (.invokestatic 211, 3) := by decide +kernel
theorem dX11_readSum_11 : decode cX11_readSum 11 = .ok (.invokevirtual 172, 3) := by decide +kernel
theorem dX11_readSum_14 : decode cX11_readSum 14 = .ok (.ifCond .ne 15, 3) := by decide +kernel
theorem dX11_readSum_17 : decode cX11_readSum 17 = .ok (.aload_n 0, 1) := by decide +kernel
theorem dX11_readSum_18 : decode cX11_readSum 18 = .ok (.bipush 45, 2) := by decide +kernel
theorem dX11_readSum_20 : decode cX11_readSum 20 = .ok (.invokestatic 211, 3) := by decide +kernel
theorem dX11_readSum_23 : decode cX11_readSum 23 = .ok (.invokevirtual 172, 3) := by decide +kernel
theorem dX11_readSum_26 : decode cX11_readSum 26 = .ok (.ifCond .eq 11, 3) := by decide +kernel
theorem dX11_readSum_29 : decode cX11_readSum 29 = .ok (.aload_n 0, 1) := by decide +kernel
theorem dX11_readSum_30 : decode cX11_readSum 30 = .ok (.iload_n 1, 1) := by decide +kernel
theorem dX11_readSum_31 : decode cX11_readSum 31 = .ok (.invokevirtual 215, 3) := by decide +kernel
theorem dX11_readSum_34 : decode cX11_readSum 34 = .ok (.goto (-29), 3) := by decide +kernel
theorem dX11_readSum_37 : decode cX11_readSum 37 = .ok (.return_, 1) := by decide +kernel
theorem dX11_readTerm_0 : decode cX11_readTerm 0 = .ok (.aload_n 0, 1) := by decide +kernel
theorem dX11_readTerm_1 : decode cX11_readTerm 1 = .ok (.iload_n 1, 1) := by decide +kernel
theorem dX11_readTerm_2 : decode cX11_readTerm 2 = .ok (.invokevirtual 218, 3) := by decide +kernel
theorem dX11_readTerm_5 : decode cX11_readTerm 5 = .ok (.aload_n 0, 1) := by decide +kernel
theorem dX11_readTerm_6 : decode cX11_readTerm 6 = .ok (.bipush 42, 2) := by decide +kernel
theorem dX11_readTerm_8 : decode cX11_readTerm 8 = .ok (.invokestatic 211, 3) := by decide +kernel
theorem dX11_readTerm_11 : decode cX11_readTerm 11 = .ok (.invokevirtual 172, 3) := by decide +kernel
theorem dX11_readTerm_14 : decode cX11_readTerm 14 = .ok (.ifCond .ne 27, 3) := by decide +kernel
theorem dX11_readTerm_17 : decode cX11_readTerm 17 = .ok (.aload_n 0, 1) := by decide +kernel
theorem dX11_readTerm_18 : decode cX11_readTerm 18 = .ok (.bipush 47, 2) := by decide +kernel
theorem dX11_readTerm_20 : decode cX11_readTerm 20 = .ok (.invokestatic 211, 3) := by decide +kernel
theorem dX11_readTerm_23 : decode cX11_readTerm 23 = .ok (.invokevirtual 172, 3) := by decide +kernel
theorem dX11_readTerm_26 : decode cX11_readTerm 26 = .ok (.ifCond .ne 15, 3) := by decide +kernel
theorem dX11_readTerm_29 : decode cX11_readTerm 29 = .ok (.aload_n 0, 1) := by decide +kernel
theorem dX11_readTerm_30 : decode cX11_readTerm 30 = .ok (.bipush 37, 2) := by decide +kernel
theorem dX11_readTerm_32 : decode cX11_readTerm 32 = .ok (.invokestatic 211, 3) := by decide +kernel
theorem dX11_readTerm_35 : decode cX11_readTerm 35 = .ok (.invokevirtual 172, 3) := by decide +kernel
theorem dX11_readTerm_38 : decode cX11_readTerm 38 = .ok (.ifCond .eq 11, 3) := by decide +kernel
theorem dX11_readTerm_41 : decode cX11_readTerm 41 = .ok (.aload_n 0, 1) := by decide +kernel
theorem dX11_readTerm_42 : decode cX11_readTerm 42 = .ok (.iload_n 1, 1) := by decide +kernel
theorem dX11_readTerm_43 : decode cX11_readTerm 43 = .ok (.invokevirtual 218, 3) := by decide +kernel
theorem dX11_readTerm_46 : decode cX11_readTerm 46 = .ok (.goto (-41), 3) := by decide +kernel
theorem dX11_readTerm_49 : decode cX11_readTerm 49 = .ok (.return_, 1) := by decide +kernel
theorem dX11_readPart_0 : decode cX11_readPart 0 = .ok (.aload_n 0, 1) := by decide +kernel
theorem dX11_readPart_1 : decode cX11_readPart 1 = .ok (.invokevirtual 165, 3) := by decide +kernel
theorem dX11_readPart_4 : decode cX11_readPart 4 = .ok (.ifCond .ne 4, 3) := by decide +kernel
theorem dX11_readPart_7 : decode cX11_readPart 7 = .ok (.return_, 1) := by decide +kernel
theorem dX11_readPart_8 : decode cX11_readPart 8 = .ok (.aload_n 0, 1) := by decide +kernel
theorem dX11_readPart_9 : decode cX11_readPart 9 = .ok (.getfield 50, 3) := by decide +kernel
theorem dX11_readPart_12 : decode cX11_readPart 12 = .ok (.aload_n 0, 1) := by decide +kernel
theorem dX11_readPart_13 : decode cX11_readPart 13 = .ok (.getfield 169, 3) := by decide +kernel
theorem dX11_readPart_16 : decode cX11_readPart 16 = .ok (.iaload, 1) := by decide +kernel
theorem dX11_readPart_17 : decode cX11_readPart 17 = .ok (.istore_n 2, 1) := by decide +kernel
theorem dX11_readPart_18 : decode cX11_readPart 18 = .ok (.iload_n 2, 1) := by decide +kernel
theorem dX11_readPart_19 : decode cX11_readPart 19 = .ok (.bipush 91, 2) := by decide +kernel
theorem dX11_readPart_21 : decode cX11_readPart 21 = .ok (.invokestatic 211, 3) := by decide +kernel
theorem dX11_readPart_24 : decode cX11_readPart 24 = .ok (.if_icmp .ne 50, 3) := by decide +kernel
theorem dX11_readPart_27 : decode cX11_readPart 27 = .ok (.iload_n 1, 1) := by decide +kernel
theorem dX11_readPart_28 : decode cX11_readPart 28 = .ok (.bipush 8, 2) := by decide +kernel
theorem dX11_readPart_30 : decode cX11_readPart 30 = .ok (.if_icmp .ne 7, 3) := by decide +kernel
theorem dX11_readPart_33 : decode cX11_readPart 33 = .ok (.aload_n 0, 1) := by decide +kernel
theorem dX11_readPart_34 : decode cX11_readPart 34 = .ok (.invokevirtual 175, 3) := by decide +kernel
theorem dX11_readPart_37 : decode cX11_readPart 37 = .ok (.aload_n 0, 1) := by decide +kernel
theorem dX11_readPart_38 : decode cX11_readPart 38 = .ok (.invokevirtual 165, 3) := by decide +kernel
theorem dX11_readPart_41 : decode cX11_readPart 41 = .ok (.ifCond .ne 4, 3) := by decide +kernel
theorem dX11_readPart_44 : decode cX11_readPart 44 = .ok (.return_, 1) := by decide +kernel
theorem dX11_readPart_45 : decode cX11_readPart 45 = .ok (.aload_n 0, 1) := by decide +kernel
theorem dX11_readPart_46 : decode cX11_readPart 46 = .ok (.dup, 1) := by decide +kernel
theorem dX11_readPart_47 : decode cX11_readPart 47 = .ok (.getfield 169, 3) := by decide +kernel
theorem dX11_readPart_50 : decode cX11_readPart 50 = .ok (.iconst 1, 1) := by decide +kernel
theorem dX11_readPart_51 : decode cX11_readPart 51 = .ok (.iadd, 1) := by decide +kernel
theorem dX11_readPart_52 : decode cX11_readPart 52 = .ok (.putfield 169, 3) := by decide +kernel
theorem dX11_readPart_55 : decode cX11_readPart 55 = .ok (.aload_n 0, 1) := by decide +kernel
theorem dX11_readPart_56 : decode cX11_readPart 56 = .ok (.iload_n 1, 1) := by decide +kernel
theorem dX11_readPart_57 : decode cX11_readPart 57 = .ok (.iconst 1, 1) := by decide +kernel
theorem dX11_readPart_58 : decode cX11_readPart 58 = .ok (.iadd, 1) := by decide +kernel
theorem dX11_readPart_59 : decode cX11_readPart 59 = .ok (.invokevirtual 181, 3) := by decide +kernel
theorem dX11_readPart_62 : decode cX11_readPart 62 = .ok (.aload_n 0, 1) := by decide +kernel
theorem dX11_readPart_63 : decode cX11_readPart 63 = .ok (.bipush 93, 2) := by decide +kernel
theorem dX11_readPart_65 : decode cX11_readPart 65 = .ok (.invokestatic 211, 3) := by decide +kernel
theorem dX11_readPart_68 : decode cX11_readPart 68 = .ok (.invokevirtual 185, 3) := by decide +kernel
theorem dX11_readPart_71 : decode cX11_readPart 71 = .ok (.goto 90, 3) := by decide +kernel
theorem dX11_readPart_74 : decode cX11_readPart 74 = .ok (.iload_n 2, 1) := by decide +kernel
theorem dX11_readPart_75 : decode cX11_readPart 75 = .ok (.bipush 50, 2) := by decide +kernel
theorem dX11_readPart_77 : decode cX11_readPart 77 = .ok (.if_icmp .ne 18, 3) := by decide +kernel
theorem dX11_readPart_80 : decode cX11_readPart 80 = .ok (.aload_n 0, 1) := by decide +kernel
theorem dX11_readPart_81 : decode cX11_readPart 81 = .ok (.getfield 53, 3) := by decide +kernel
theorem dX11_readPart_84 : decode cX11_readPart 84 = .ok (.aload_n 0, 1) := by decide +kernel
theorem dX11_readPart_85 : decode cX11_readPart 85 = .ok (.getfield 169, 3) := by decide +kernel
theorem dX11_readPart_88 : decode cX11_readPart 88 = .ok (.iaload, 1) := by decide +kernel
theorem dX11_readPart_89 : decode cX11_readPart 89 = .ok (.sipush 1000, 3) := by decide +kernel
theorem dX11_readPart_92 : decode cX11_readPart 92 = .ok (.if_icmp .le 19, 3) := by decide +kernel
theorem dX11_readPart_95 : decode cX11_readPart 95 = .ok (.iload_n 2, 1) := by decide +kernel
theorem dX11_readPart_96 : decode cX11_readPart 96 = .ok (.aload_n 0, 1) := by decide +kernel
theorem dX11_readPart_97 : decode cX11_readPart 97 = .ok (.getfield 221, 3) := by decide +kernel
theorem dX11_readPart_100 : decode cX11_readPart 100 = .ok (.if_icmp .lt 57, 3) := by decide +kernel
theorem dX11_readPart_103 : decode cX11_readPart 103 = .ok (.iload_n 2, 1) := by decide +kernel
theorem dX11_readPart_104 : decode cX11_readPart 104 = .ok (.aload_n 0, 1) := by decide +kernel
theorem dX11_readPart_105 : decode cX11_readPart 105 = .ok (.getfield 224, 3) := by decide +kernel
theorem dX11_readPart_108 : decode cX11_readPart 108 = .ok (.if_icmp .gt 49, 3) := by decide +kernel
theorem dX11_readPart_111 : decode cX11_readPart 111 = .ok (.aload_n 0, 1) := by decide +kernel
theorem dX11_readPart_112 : decode cX11_readPart 112 = .ok (.invokevirtual 227, 3) := by decide +kernel
theorem dX11_readPart_115 : decode cX11_readPart 115 = .ok (.aload_n 0, 1) := by decide +kernel
theorem dX11_readPart_116 : decode cX11_readPart 116 = .ok (.getfield 195, 3) := by decide +kernel
theorem dX11_readPart_119 : decode cX11_readPart 119 = .ok (.ifCond .eq 16, 3) := by decide +kernel
theorem dX11_readPart_122 : decode cX11_readPart 122 = .ok (.iload_n 2, 1) := by decide +kernel
theorem dX11_readPart_123 : decode cX11_readPart 123 = .ok (.bipush 14, 2) := by decide +kernel
theorem dX11_readPart_125 : decode cX11_readPart 125 = .ok (.if_icmp .ne 10, 3) := by decide +kernel
theorem dX11_readPart_128 : decode cX11_readPart 128 = .ok (.aload_n 0, 1) := by decide +kernel
theorem dX11_readPart_129 : decode cX11_readPart 129 = .ok (.iconst 0, 1) := by decide +kernel
theorem dX11_readPart_130 : decode cX11_readPart 130 = .ok (.bipush 7, 2) := by decide +kernel
theorem dX11_readPart_132 : decode cX11_readPart 132 = .ok (.invokevirtual 191, 3) := by decide +kernel
theorem dX11_readPart_135 : decode cX11_readPart 135 = .ok (.aload_n 0, 1) := by decide +kernel
theorem dX11_readPart_136 : decode cX11_readPart 136 = .ok (.getfield 195, 3) := by decide +kernel
theorem dX11_readPart_139 : decode cX11_readPart 139 = .ok (.ifCond .eq 22, 3) := by decide +kernel
theorem dX11_readPart_142 : decode cX11_readPart 142 = .ok (.iload_n 2, 1) := by decide +kernel
theorem dX11_readPart_143 : decode cX11_readPart 143 = .ok (.bipush 15, 2) := by decide +kernel
theorem dX11_readPart_145 : decode cX11_readPart 145 = .ok (.if_icmp .ne 16, 3) := by decide +kernel
theorem dX11_readPart_148 : decode cX11_readPart 148 = .ok (.aload_n 0, 1) := by decide +kernel
theorem dX11_readPart_149 : decode cX11_readPart 149 = .ok (.iconst 0, 1) := by decide +kernel
theorem dX11_readPart_150 : decode cX11_readPart 150 = .ok (.iconst 3, 1) := by decide +kernel
theorem dX11_readPart_151 : decode cX11_readPart 151 = .ok (.invokevirtual 191, 3) := by decide +kernel
theorem dX11_readPart_154 : decode cX11_readPart 154 = .ok (.goto 7, 3) := by decide +kernel
theorem dX11_readPart_157 : decode cX11_readPart 157 = .ok (.aload_n 0, 1) := by decide +kernel
theorem dX11_readPart_158 : decode cX11_readPart 158 = .ok (.invokevirtual 175, 3) := by decide +kernel
theorem dX11_readPart_161 : decode cX11_readPart 161 = .ok (.return_, 1) := by decide +kernel
theorem dX11_reads_0 : decode cX11_reads 0 = .ok (.aload_n 0, 1) := by decide +kernel
theorem dX11_reads_1 : decode cX11_reads 1 = .ok (.aload_n 0, 1) := by decide +kernel
theorem dX11_reads_2 : decode cX11_reads 2 = .ok (.getfield 143, 3) := by decide +kernel
theorem dX11_reads_5 : decode cX11_reads 5 = .ok (.invokevirtual 230, 3) := by decide +kernel
theorem dX11_reads_8 : decode cX11_reads 8 = .ok (.aload_n 0, 1) := by decide +kernel
theorem dX11_reads_9 : decode cX11_reads 9 = .ok (.iconst 0, 1) := by decide +kernel
theorem dX11_reads_10 : decode cX11_reads 10 = .ok (.putfield 143, 3) := by decide +kernel
theorem dX11_reads_13 : decode cX11_reads 13 = .ok (.aload_n 0, 1) := by decide +kernel
theorem dX11_reads_14 : decode cX11_reads 14 = .ok (.iconst 0, 1) := by decide +kernel
theorem dX11_reads_15 : decode cX11_reads 15 = .ok (.putfield 169, 3) := by decide +kernel
theorem dX11_reads_18 : decode cX11_reads 18 = .ok (.aload_n 0, 1) := by decide +kernel
theorem dX11_reads_19 : decode cX11_reads 19 = .ok (.iconst 0, 1) := by decide +kernel
theorem dX11_reads_20 : decode cX11_reads 20 = .ok (.putfield 178, 3) := by decide +kernel
theorem dX11_reads_23 : decode cX11_reads 23 = .ok (.aload_n 0, 1) := by decide +kernel
theorem dX11_reads_24 : decode cX11_reads 24 = .ok (.iconst (-1), 1) := by decide +kernel
theorem dX11_reads_25 : decode cX11_reads 25 = .ok (.putfield 162, 3) := by decide +kernel
theorem dX11_reads_28 : decode cX11_reads 28 = .ok (.aload_n 0, 1) := by decide +kernel
theorem dX11_reads_29 : decode cX11_reads 29 = .ok (.invokevirtual 233, 3) := by decide +kernel
theorem dX11_reads_32 : decode cX11_reads 32 = .ok (.iconst 1, 1) := by decide +kernel
theorem dX11_reads_33 : decode cX11_reads 33 = .ok (.istore_n 1, 1) := by decide +kernel
theorem dX11_reads_34 : decode cX11_reads 34 = .ok (.aload_n 0, 1) := by decide +kernel
theorem dX11_reads_35 : decode cX11_reads 35 = .ok (.bipush 59, 2) := by decide +kernel
theorem dX11_reads_37 : decode cX11_reads 37 = .ok (.invokestatic 211, 3) := by decide +kernel
theorem dX11_reads_40 : decode cX11_reads 40 = .ok (.invokevirtual 172, 3) := by decide +kernel
theorem dX11_reads_43 : decode cX11_reads 43 = .ok (.ifCond .eq 30, 3) := by decide +kernel
theorem dX11_reads_46 : decode cX11_reads 46 = .ok (.iload_n 1, 1) := by decide +kernel
theorem dX11_reads_47 : decode cX11_reads 47 = .ok (.bipush 12, 2) := by decide +kernel
theorem dX11_reads_49 : decode cX11_reads 49 = .ok (.if_icmp .ne 7, 3) := by decide +kernel
theorem dX11_reads_52 : decode cX11_reads 52 = .ok (.aload_n 0, 1) := by decide +kernel
theorem dX11_reads_53 : decode cX11_reads 53 = .ok (.invokevirtual 175, 3) := by decide +kernel
theorem dX11_reads_56 : decode cX11_reads 56 = .ok (.aload_n 0, 1) := by decide +kernel
theorem dX11_reads_57 : decode cX11_reads 57 = .ok (.invokevirtual 165, 3) := by decide +kernel
theorem dX11_reads_60 : decode cX11_reads 60 = .ok (.ifCond .eq 7, 3) := by decide +kernel
theorem dX11_reads_63 : decode cX11_reads 63 = .ok (.aload_n 0, 1) := by decide +kernel
theorem dX11_reads_64 : decode cX11_reads 64 = .ok (.invokevirtual 233, 3) := by decide +kernel
theorem dX11_reads_67 : decode cX11_reads 67 = .ok (.iinc 1 1, 3) := by decide +kernel
theorem dX11_reads_70 : decode cX11_reads 70 = .ok (.goto (-36), 3) := by decide +kernel
theorem dX11_reads_73 : decode cX11_reads 73 = .ok (.aload_n 0, 1) := by decide +kernel
theorem dX11_reads_74 : decode cX11_reads 74 = .ok (.invokevirtual 165, 3) := by decide +kernel
theorem dX11_reads_77 : decode cX11_reads 77 = .ok (.ifCond .eq 18, 3) := by decide +kernel
theorem dX11_reads_80 : decode cX11_reads 80 = .ok (.aload_n 0, 1) := by decide +kernel
theorem dX11_reads_81 : decode cX11_reads 81 = .ok (.getfield 169, 3) := by decide +kernel
theorem dX11_reads_84 : decode cX11_reads 84 = .ok (.aload_n 0, 1) := by decide +kernel
theorem dX11_reads_85 : decode cX11_reads 85 = .ok (.getfield 149, 3) := by decide +kernel
theorem dX11_reads_88 : decode cX11_reads 88 = .ok (.if_icmp .ge 7, 3) := by decide +kernel
theorem dX11_reads_91 : decode cX11_reads 91 = .ok (.aload_n 0, 1) := by decide +kernel
theorem dX11_reads_92 : decode cX11_reads 92 = .ok (.invokevirtual 175, 3) := by decide +kernel
theorem dX11_reads_95 : decode cX11_reads 95 = .ok (.aload_n 0, 1) := by decide +kernel
theorem dX11_reads_96 : decode cX11_reads 96 = .ok (.aload_n 0, 1) := by decide +kernel
theorem dX11_reads_97 : decode cX11_reads 97 = .ok (.getfield 162, 3) := by decide +kernel
theorem dX11_reads_100 : decode cX11_reads 100 = .ok (.putfield 47, 3) := by decide +kernel
theorem dX11_reads_103 : decode cX11_reads 103 = .ok (.aload_n 0, 1) := by decide +kernel
theorem dX11_reads_104 : decode cX11_reads 104 = .ok (.invokevirtual 165, 3) := by decide +kernel
theorem dX11_reads_107 : decode cX11_reads 107 = .ok (.ireturn, 1) := by decide +kernel
theorem dX11_readsAs_0 : decode cX11_readsAs 0 = .ok (.aload_n 0, 1) := by decide +kernel
theorem dX11_readsAs_1 : decode cX11_readsAs 1 = .ok (.iload_n 1, 1) := by decide +kernel
theorem dX11_readsAs_2 : decode cX11_readsAs 2 = .ok (.putfield 195, 3) := by decide +kernel
theorem dX11_readsAs_5 : decode cX11_readsAs 5 = .ok (.aload_n 0, 1) := by decide +kernel
theorem dX11_readsAs_6 : decode cX11_readsAs 6 = .ok (.iload_n 1, 1) := by decide +kernel
theorem dX11_readsAs_7 : decode cX11_readsAs 7 = .ok (.ifCond .eq 8, 3) := by decide +kernel
theorem dX11_readsAs_10 : decode cX11_readsAs 10 = .ok (.bipush 14, 2) := by decide +kernel
theorem dX11_readsAs_12 : decode cX11_readsAs 12 = .ok (.goto 5, 3) := by decide +kernel
theorem dX11_readsAs_15 : decode cX11_readsAs 15 = .ok (.bipush 8, 2) := by decide +kernel
theorem dX11_readsAs_17 : decode cX11_readsAs 17 = .ok (.putfield 221, 3) := by decide +kernel
theorem dX11_readsAs_20 : decode cX11_readsAs 20 = .ok (.aload_n 0, 1) := by decide +kernel
theorem dX11_readsAs_21 : decode cX11_readsAs 21 = .ok (.iload_n 1, 1) := by decide +kernel
theorem dX11_readsAs_22 : decode cX11_readsAs 22 = .ok (.ifCond .eq 8, 3) := by decide +kernel
theorem dX11_readsAs_25 : decode cX11_readsAs 25 = .ok (.bipush 20, 2) := by decide +kernel
theorem dX11_readsAs_27 : decode cX11_readsAs 27 = .ok (.goto 5, 3) := by decide +kernel
theorem dX11_readsAs_30 : decode cX11_readsAs 30 = .ok (.bipush 17, 2) := by decide +kernel
theorem dX11_readsAs_32 : decode cX11_readsAs 32 = .ok (.putfield 224, 3) := by decide +kernel
theorem dX11_readsAs_35 : decode cX11_readsAs 35 = .ok (.aload_n 0, 1) := by decide +kernel
theorem dX11_readsAs_36 : decode cX11_readsAs 36 = .ok (.invokevirtual 236, 3) := by decide +kernel
theorem dX11_readsAs_39 : decode cX11_readsAs 39 = .ok (.ireturn, 1) := by decide +kernel
theorem dX11_lays_0 : decode cX11_lays 0 = .ok (.aload_n 0, 1) := by decide +kernel
theorem dX11_lays_1 : decode cX11_lays 1 = .ok (.getfield 24, 3) := by decide +kernel
theorem dX11_lays_4 : decode cX11_lays 4 = .ok (.bipush 80, 2) := by decide +kernel
theorem dX11_lays_6 : decode cX11_lays 6 = .ok (.iload_n 1, 1) := by decide +kernel
theorem dX11_lays_7 : decode cX11_lays 7 = .ok (.iadd, 1) := by decide +kernel
theorem dX11_lays_8 : decode cX11_lays 8 = .ok (.aload_n 0, 1) := by decide +kernel
theorem dX11_lays_9 : decode cX11_lays 9 = .ok (.getfield 149, 3) := by decide +kernel
theorem dX11_lays_12 : decode cX11_lays 12 = .ok (.iastore, 1) := by decide +kernel
theorem dX11_lays_13 : decode cX11_lays 13 = .ok (.iconst 0, 1) := by decide +kernel
theorem dX11_lays_14 : decode cX11_lays 14 = .ok (.istore_n 2, 1) := by decide +kernel
theorem dX11_lays_15 : decode cX11_lays 15 = .ok (.iload_n 2, 1) := by decide +kernel
theorem dX11_lays_16 : decode cX11_lays 16 = .ok (.aload_n 0, 1) := by decide +kernel
theorem dX11_lays_17 : decode cX11_lays 17 = .ok (.getfield 149, 3) := by decide +kernel
theorem dX11_lays_20 : decode cX11_lays 20 = .ok (.if_icmp .ge 52, 3) := by decide +kernel
theorem dX11_lays_23 : decode cX11_lays 23 = .ok (.aload_n 0, 1) := by decide +kernel
theorem dX11_lays_24 : decode cX11_lays 24 = .ok (.getfield 24, 3) := by decide +kernel
theorem dX11_lays_27 : decode cX11_lays 27 = .ok (.bipush 87, 2) := by decide +kernel
theorem dX11_lays_29 : decode cX11_lays 29 = .ok (.sipush 400, 3) := by decide +kernel
theorem dX11_lays_32 : decode cX11_lays 32 = .ok (.iload_n 1, 1) := by decide +kernel
theorem dX11_lays_33 : decode cX11_lays 33 = .ok (.imul, 1) := by decide +kernel
theorem dX11_lays_34 : decode cX11_lays 34 = .ok (.iadd, 1) := by decide +kernel
theorem dX11_lays_35 : decode cX11_lays 35 = .ok (.iload_n 2, 1) := by decide +kernel
theorem dX11_lays_36 : decode cX11_lays 36 = .ok (.iadd, 1) := by decide +kernel
theorem dX11_lays_37 : decode cX11_lays 37 = .ok (.aload_n 0, 1) := by decide +kernel
theorem dX11_lays_38 : decode cX11_lays 38 = .ok (.getfield 50, 3) := by decide +kernel
theorem dX11_lays_41 : decode cX11_lays 41 = .ok (.iload_n 2, 1) := by decide +kernel
theorem dX11_lays_42 : decode cX11_lays 42 = .ok (.iaload, 1) := by decide +kernel
theorem dX11_lays_43 : decode cX11_lays 43 = .ok (.iastore, 1) := by decide +kernel
theorem dX11_lays_44 : decode cX11_lays 44 = .ok (.aload_n 0, 1) := by decide +kernel
theorem dX11_lays_45 : decode cX11_lays 45 = .ok (.getfield 24, 3) := by decide +kernel
theorem dX11_lays_48 : decode cX11_lays 48 = .ok (.sipush 2887, 3) := by decide +kernel
theorem dX11_lays_51 : decode cX11_lays 51 = .ok (.sipush 400, 3) := by decide +kernel
theorem dX11_lays_54 : decode cX11_lays 54 = .ok (.iload_n 1, 1) := by decide +kernel
theorem dX11_lays_55 : decode cX11_lays 55 = .ok (.imul, 1) := by decide +kernel
theorem dX11_lays_56 : decode cX11_lays 56 = .ok (.iadd, 1) := by decide +kernel
theorem dX11_lays_57 : decode cX11_lays 57 = .ok (.iload_n 2, 1) := by decide +kernel
theorem dX11_lays_58 : decode cX11_lays 58 = .ok (.iadd, 1) := by decide +kernel
theorem dX11_lays_59 : decode cX11_lays 59 = .ok (.aload_n 0, 1) := by decide +kernel
theorem dX11_lays_60 : decode cX11_lays 60 = .ok (.getfield 53, 3) := by decide +kernel
theorem dX11_lays_63 : decode cX11_lays 63 = .ok (.iload_n 2, 1) := by decide +kernel
theorem dX11_lays_64 : decode cX11_lays 64 = .ok (.iaload, 1) := by decide +kernel
theorem dX11_lays_65 : decode cX11_lays 65 = .ok (.iastore, 1) := by decide +kernel
theorem dX11_lays_66 : decode cX11_lays 66 = .ok (.iinc 2 1, 3) := by decide +kernel
theorem dX11_lays_69 : decode cX11_lays 69 = .ok (.goto (-54), 3) := by decide +kernel
theorem dX11_lays_72 : decode cX11_lays 72 = .ok (.return_, 1) := by decide +kernel
theorem dX11_law_0 : decode cX11_law 0 = .ok (.aload_n 0, 1) := by decide +kernel
theorem dX11_law_1 : decode cX11_law 1 = .ok (.getfield 24, 3) := by decide +kernel
theorem dX11_law_4 : decode cX11_law 4 = .ok (.bipush 78, 2) := by decide +kernel
theorem dX11_law_6 : decode cX11_law 6 = .ok (.iaload, 1) := by decide +kernel
theorem dX11_law_7 : decode cX11_law 7 = .ok (.bipush 6, 2) := by decide +kernel
theorem dX11_law_9 : decode cX11_law 9 = .ok (.if_icmp .ne 15, 3) := by decide +kernel
theorem dX11_law_12 : decode cX11_law 12 = .ok (.aload_n 0, 1) := by decide +kernel
theorem dX11_law_13 : decode cX11_law 13 = .ok (.iconst 0, 1) := by decide +kernel
theorem dX11_law_14 : decode cX11_law 14 = .ok (.putfield 143, 3) := by decide +kernel
theorem dX11_law_17 : decode cX11_law 17 = .ok (.aload_n 0, 1) := by decide +kernel
theorem dX11_law_18 : decode cX11_law 18 = .ok (.bipush (-5), 2) := by decide +kernel
theorem dX11_law_20 : decode cX11_law 20 = .ok (.invokevirtual 94, 3) := by decide +kernel
theorem dX11_law_23 : decode cX11_law 23 = .ok (.ireturn, 1) := by decide +kernel
theorem dX11_law_24 : decode cX11_law 24 = .ok (.aload_n 0, 1) := by decide +kernel
theorem dX11_law_25 : decode cX11_law 25 = .ok (.iconst 0, 1) := by decide +kernel
theorem dX11_law_26 : decode cX11_law 26 = .ok (.invokevirtual 239, 3) := by decide +kernel
theorem dX11_law_29 : decode cX11_law 29 = .ok (.ifCond .ne 10, 3) := by decide +kernel
theorem dX11_law_32 : decode cX11_law 32 = .ok (.aload_n 0, 1) := by decide +kernel
theorem dX11_law_33 : decode cX11_law 33 = .ok (.bipush (-6), 2) := by decide +kernel
theorem dX11_law_35 : decode cX11_law 35 = .ok (.invokevirtual 94, 3) := by decide +kernel
theorem dX11_law_38 : decode cX11_law 38 = .ok (.ireturn, 1) := by decide +kernel
theorem dX11_law_39 : decode cX11_law 39 = .ok (.aload_n 0, 1) := by decide +kernel
theorem dX11_law_40 : decode cX11_law 40 = .ok (.aload_n 0, 1) := by decide +kernel
theorem dX11_law_41 : decode cX11_law 41 = .ok (.getfield 24, 3) := by decide +kernel
theorem dX11_law_44 : decode cX11_law 44 = .ok (.bipush 78, 2) := by decide +kernel
theorem dX11_law_46 : decode cX11_law 46 = .ok (.iaload, 1) := by decide +kernel
theorem dX11_law_47 : decode cX11_law 47 = .ok (.invokevirtual 243, 3) := by decide +kernel
theorem dX11_law_50 : decode cX11_law 50 = .ok (.aload_n 0, 1) := by decide +kernel
theorem dX11_law_51 : decode cX11_law 51 = .ok (.getfield 24, 3) := by decide +kernel
theorem dX11_law_54 : decode cX11_law 54 = .ok (.bipush 78, 2) := by decide +kernel
theorem dX11_law_56 : decode cX11_law 56 = .ok (.dup2, 1) := by decide +kernel
theorem dX11_law_57 : decode cX11_law 57 = .ok (.iaload, 1) := by decide +kernel
theorem dX11_law_58 : decode cX11_law 58 = .ok (.iconst 1, 1) := by decide +kernel
theorem dX11_law_59 : decode cX11_law 59 = .ok (.iadd, 1) := by decide +kernel
theorem dX11_law_60 : decode cX11_law 60 = .ok (.iastore, 1) := by decide +kernel
theorem dX11_law_61 : decode cX11_law 61 = .ok (.aload_n 0, 1) := by decide +kernel
theorem dX11_law_62 : decode cX11_law 62 = .ok (.aload_n 0, 1) := by decide +kernel
theorem dX11_law_63 : decode cX11_law 63 = .ok (.getfield 24, 3) := by decide +kernel
theorem dX11_law_66 : decode cX11_law 66 = .ok (.bipush 78, 2) := by decide +kernel
theorem dX11_law_68 : decode cX11_law 68 = .ok (.iaload, 1) := by decide +kernel
theorem dX11_law_69 : decode cX11_law 69 = .ok (.iconst 1, 1) := by decide +kernel
theorem dX11_law_70 : decode cX11_law 70 = .ok (.isub, 1) := by decide +kernel
theorem dX11_law_71 : decode cX11_law 71 = .ok (.invokevirtual 14, 3) := by decide +kernel
theorem dX11_law_74 : decode cX11_law 74 = .ok (.ireturn, 1) := by decide +kernel
theorem dX11_fault_0 : decode cX11_fault 0 = .ok (.aload_n 0, 1) := by decide +kernel
theorem dX11_fault_1 : decode cX11_fault 1 = .ok (.getfield 47, 3) := by decide +kernel
theorem dX11_fault_4 : decode cX11_fault 4 = .ok (.ireturn, 1) := by decide +kernel
theorem dX11_force_0 : decode cX11_force 0 = .ok (.iload_n 1, 1) := by decide +kernel
theorem dX11_force_1 : decode cX11_force 1 = .ok (.iconst (-1), 1) := by decide +kernel
theorem dX11_force_2 : decode cX11_force 2 = .ok (.aload_n 0, 1) := by decide +kernel
theorem dX11_force_3 : decode cX11_force 3 = .ok (.getfield 24, 3) := by decide +kernel
theorem dX11_force_6 : decode cX11_force 6 = .ok (.bipush 78, 2) := by decide +kernel
theorem dX11_force_8 : decode cX11_force 8 = .ok (.iaload, 1) := by decide +kernel
theorem dX11_force_9 : decode cX11_force 9 = .ok (.iconst 1, 1) := by decide +kernel
theorem dX11_force_10 : decode cX11_force 10 = .ok (.isub, 1) := by decide +kernel
theorem dX11_force_11 : decode cX11_force 11 = .ok (.invokestatic 90, 3) := by decide +kernel
theorem dX11_force_14 : decode cX11_force 14 = .ok (.ifCond .ne 10, 3) := by decide +kernel
theorem dX11_force_17 : decode cX11_force 17 = .ok (.aload_n 0, 1) := by decide +kernel
theorem dX11_force_18 : decode cX11_force 18 = .ok (.bipush (-2), 2) := by decide +kernel
theorem dX11_force_20 : decode cX11_force 20 = .ok (.invokevirtual 94, 3) := by decide +kernel
theorem dX11_force_23 : decode cX11_force 23 = .ok (.ireturn, 1) := by decide +kernel
theorem dX11_force_24 : decode cX11_force 24 = .ok (.aload_n 0, 1) := by decide +kernel
theorem dX11_force_25 : decode cX11_force 25 = .ok (.getfield 24, 3) := by decide +kernel
theorem dX11_force_28 : decode cX11_force 28 = .ok (.bipush 79, 2) := by decide +kernel
theorem dX11_force_30 : decode cX11_force 30 = .ok (.iaload, 1) := by decide +kernel
theorem dX11_force_31 : decode cX11_force 31 = .ok (.istore_n 2, 1) := by decide +kernel
theorem dX11_force_32 : decode cX11_force 32 = .ok (.aload_n 0, 1) := by decide +kernel
theorem dX11_force_33 : decode cX11_force 33 = .ok (.getfield 24, 3) := by decide +kernel
theorem dX11_force_36 : decode cX11_force 36 = .ok (.bipush 79, 2) := by decide +kernel
theorem dX11_force_38 : decode cX11_force 38 = .ok (.iload_n 1, 1) := by decide +kernel
theorem dX11_force_39 : decode cX11_force 39 = .ok (.iastore, 1) := by decide +kernel
theorem dX11_force_40 : decode cX11_force 40 = .ok (.aload_n 0, 1) := by decide +kernel
theorem dX11_force_41 : decode cX11_force 41 = .ok (.iload_n 2, 1) := by decide +kernel
theorem dX11_force_42 : decode cX11_force 42 = .ok (.invokevirtual 14, 3) := by decide +kernel
theorem dX11_force_45 : decode cX11_force 45 = .ok (.ireturn, 1) := by decide +kernel
theorem dX11_codeAt_0 : decode cX11_codeAt 0 = .ok (.iload_n 1, 1) := by decide +kernel
theorem dX11_codeAt_1 : decode cX11_codeAt 1 = .ok (.aload_n 0, 1) := by decide +kernel
theorem dX11_codeAt_2 : decode cX11_codeAt 2 = .ok (.getfield 246, 3) := by decide +kernel
theorem dX11_codeAt_5 : decode cX11_codeAt 5 = .ok (.if_icmp .ge 15, 3) := by decide +kernel
theorem dX11_codeAt_8 : decode cX11_codeAt 8 = .ok (.aload_n 0, 1) := by decide +kernel
theorem dX11_codeAt_9 : decode cX11_codeAt 9 = .ok (.getfield 24, 3) := by decide +kernel
theorem dX11_codeAt_12 : decode cX11_codeAt 12 = .ok (.bipush 87, 2) := by decide +kernel
theorem dX11_codeAt_14 : decode cX11_codeAt 14 = .ok (.iload_n 1, 1) := by decide +kernel
theorem dX11_codeAt_15 : decode cX11_codeAt 15 = .ok (.iadd, 1) := by decide +kernel
theorem dX11_codeAt_16 : decode cX11_codeAt 16 = .ok (.iaload, 1) := by decide +kernel
theorem dX11_codeAt_17 : decode cX11_codeAt 17 = .ok (.goto 4, 3) := by decide +kernel
theorem dX11_codeAt_20 : decode cX11_codeAt 20 = .ok (.iconst 0, 1) := by decide +kernel
theorem dX11_codeAt_21 : decode cX11_codeAt 21 = .ok (.ireturn, 1) := by decide +kernel
theorem dX11_passes0_0 : decode cX11_passes0 0 = .ok (.aload_n 0, 1) := by decide +kernel
theorem dX11_passes0_1 : decode cX11_passes0 1 = .ok (.aload_n 0, 1) := by decide +kernel
theorem dX11_passes0_2 : decode cX11_passes0 2 = .ok (.getfield 249, 3) := by decide +kernel
theorem dX11_passes0_5 : decode cX11_passes0 5 = .ok (.invokevirtual 252, 3) := by decide +kernel
theorem dX11_passes0_8 : decode cX11_passes0 8 = .ok (.iload_n 1, 1) := by decide +kernel
theorem dX11_passes0_9 : decode cX11_passes0 9 = .ok (.if_icmp .ne 7, 3) := by decide +kernel
theorem dX11_passes0_12 : decode cX11_passes0 12 = .ok (.iconst 1, 1) := by decide +kernel
theorem dX11_passes0_13 : decode cX11_passes0 13 = .ok (.goto 4, 3) := by decide +kernel
theorem dX11_passes0_16 : decode cX11_passes0 16 = .ok (.iconst 0, 1) := by decide +kernel
theorem dX11_passes0_17 : decode cX11_passes0 17 = .ok (.istore_n 2, 1) := by decide +kernel
theorem dX11_passes0_18 : decode cX11_passes0 18 = .ok (.iload_n 2, 1) := by decide +kernel
theorem dX11_passes0_19 : decode cX11_passes0 19 = .ok (.ifCond .eq 13, 3) := by decide +kernel
theorem dX11_passes0_22 : decode cX11_passes0 22 = .ok (.aload_n 0, 1) := by decide +kernel
theorem dX11_passes0_23 : decode cX11_passes0 23 = .ok (.dup, 1) := by decide +kernel
