theorem dX11_leave_1 : decode cX11_leave 1 = .ok (.aload_n 0, 1) := by decide +kernel
theorem dX11_leave_2 : decode cX11_leave 2 = .ok (.iload_n 1, 1) := by decide +kernel
theorem dX11_leave_3 : decode cX11_leave 3 = .ok (.invokevirtual 359, 3) := by decide +kernel
theorem dX11_leave_6 : decode cX11_leave 6 = .ok (.invokevirtual 350, 3) := by decide +kernel
theorem dX11_leave_9 : decode cX11_leave 9 = .ok (.ireturn, 1) := by decide +kernel
theorem dX11_moneyBy_0 : decode cX11_moneyBy 0 = .ok (.aload_n 0, 1) := by decide +kernel
theorem dX11_moneyBy_1 : decode cX11_moneyBy 1 = .ok (.getfield 24, 3) := by decide +kernel
theorem dX11_moneyBy_4 : decode cX11_moneyBy 4 = .ok (.iconst 1, 1) := by decide +kernel
theorem dX11_moneyBy_5 : decode cX11_moneyBy 5 = .ok (.iaload, 1) := by decide +kernel
theorem dX11_moneyBy_6 : decode cX11_moneyBy 6 = .ok (.iload_n 1, 1) := by decide +kernel
theorem dX11_moneyBy_7 : decode cX11_moneyBy 7 = .ok (.aload_n 0, 1) := by decide +kernel
theorem dX11_moneyBy_8 : decode cX11_moneyBy 8 = .ok (.aload_n 0, 1) := by decide +kernel
theorem dX11_moneyBy_9 : decode cX11_moneyBy 9 = .ok (.getfield 24, 3) := by decide +kernel
theorem dX11_moneyBy_12 : decode cX11_moneyBy 12 = .ok (.iconst 2, 1) := by decide +kernel
theorem dX11_moneyBy_13 : decode cX11_moneyBy 13 = .ok (.iaload, 1) := by decide +kernel
theorem dX11_moneyBy_14 : decode cX11_moneyBy 14 = .ok (.invokevirtual 344, 3) := by decide +kernel
theorem dX11_moneyBy_17 : decode cX11_moneyBy 17 = .ok (.imul, 1) := by decide +kernel
theorem dX11_moneyBy_18 : decode cX11_moneyBy 18 = .ok (.iadd, 1) := by decide +kernel
theorem dX11_moneyBy_19 : decode cX11_moneyBy 19 = .ok (.ireturn, 1) := by decide +kernel
theorem dX11_wholeOf_0 : decode cX11_wholeOf 0 = .ok (.aload_n 0, 1) := by decide +kernel
theorem dX11_wholeOf_1 : decode cX11_wholeOf 1 = .ok (.iload_n 2, 1) := by decide +kernel
theorem dX11_wholeOf_2 : decode cX11_wholeOf 2 = .ok (.invokevirtual 362, 3) := by decide +kernel
theorem dX11_wholeOf_5 : decode cX11_wholeOf 5 = .ok (.aload_n 0, 1) := by decide +kernel
theorem dX11_wholeOf_6 : decode cX11_wholeOf 6 = .ok (.getfield 24, 3) := by decide +kernel
theorem dX11_wholeOf_9 : decode cX11_wholeOf 9 = .ok (.bipush 23, 2) := by decide +kernel
theorem dX11_wholeOf_11 : decode cX11_wholeOf 11 = .ok (.iload_n 1, 1) := by decide +kernel
theorem dX11_wholeOf_12 : decode cX11_wholeOf 12 = .ok (.iadd, 1) := by decide +kernel
theorem dX11_wholeOf_13 : decode cX11_wholeOf 13 = .ok (.iaload, 1) := by decide +kernel
theorem dX11_wholeOf_14 : decode cX11_wholeOf 14 = .ok (.idiv, 1) := by decide +kernel
theorem dX11_wholeOf_15 : decode cX11_wholeOf 15 = .ok (.ireturn, 1) := by decide +kernel
theorem dX11_wholeNow_0 : decode cX11_wholeNow 0 = .ok (.aload_n 0, 1) := by decide +kernel
theorem dX11_wholeNow_1 : decode cX11_wholeNow 1 = .ok (.iload_n 1, 1) := by decide +kernel
theorem dX11_wholeNow_2 : decode cX11_wholeNow 2 = .ok (.invokevirtual 118, 3) := by decide +kernel
theorem dX11_wholeNow_5 : decode cX11_wholeNow 5 = .ok (.ifCond .eq 17, 3) := by decide +kernel
theorem dX11_wholeNow_8 : decode cX11_wholeNow 8 = .ok (.aload_n 0, 1) := by decide +kernel
theorem dX11_wholeNow_9 : decode cX11_wholeNow 9 = .ok (.iload_n 1, 1) := by decide +kernel
theorem dX11_wholeNow_10 : decode cX11_wholeNow 10 = .ok (.aload_n 0, 1) := by decide +kernel
theorem dX11_wholeNow_11 : decode cX11_wholeNow 11 = .ok (.getfield 24, 3) := by decide +kernel
theorem dX11_wholeNow_14 : decode cX11_wholeNow 14 = .ok (.iconst 0, 1) := by decide +kernel
theorem dX11_wholeNow_15 : decode cX11_wholeNow 15 = .ok (.iaload, 1) := by decide +kernel
theorem dX11_wholeNow_16 : decode cX11_wholeNow 16 = .ok (.invokevirtual 365, 3) := by decide +kernel
theorem dX11_wholeNow_19 : decode cX11_wholeNow 19 = .ok (.goto 4, 3) := by decide +kernel
theorem dX11_wholeNow_22 : decode cX11_wholeNow 22 = .ok (.iconst 0, 1) := by decide +kernel
theorem dX11_wholeNow_23 : decode cX11_wholeNow 23 = .ok (.ireturn, 1) := by decide +kernel
theorem dX11_money_0 : decode cX11_money 0 = .ok (.iload_n 1, 1) := by decide +kernel
theorem dX11_money_1 : decode cX11_money 1 = .ok (.iconst 0, 1) := by decide +kernel
theorem dX11_money_2 : decode cX11_money 2 = .ok (.iconst 1, 1) := by decide +kernel
theorem dX11_money_3 : decode cX11_money 3 = .ok (.invokestatic 90, 3) := by decide +kernel
theorem dX11_money_6 : decode cX11_money 6 = .ok (.ifCond .ne 6, 3) := by decide +kernel
theorem dX11_money_9 : decode cX11_money 9 = .ok (.ldc 104, 2) := by decide +kernel
theorem dX11_money_11 : decode cX11_money 11 = .ok (.ireturn, 1) := by decide +kernel
theorem dX11_money_12 : decode cX11_money 12 = .ok (.aload_n 0, 1) := by decide +kernel
theorem dX11_money_13 : decode cX11_money 13 = .ok (.aload_n 0, 1) := by decide +kernel
theorem dX11_money_14 : decode cX11_money 14 = .ok (.getfield 24, 3) := by decide +kernel
theorem dX11_money_17 : decode cX11_money 17 = .ok (.iconst 0, 1) := by decide +kernel
theorem dX11_money_18 : decode cX11_money 18 = .ok (.iaload, 1) := by decide +kernel
theorem dX11_money_19 : decode cX11_money 19 = .ok (.invokevirtual 362, 3) := by decide +kernel
theorem dX11_money_22 : decode cX11_money 22 = .ok (.istore_n 2, 1) := by decide +kernel
theorem dX11_money_23 : decode cX11_money 23 = .ok (.iconst 0, 1) := by decide +kernel
theorem dX11_money_24 : decode cX11_money 24 = .ok (.istore_n 3, 1) := by decide +kernel
theorem dX11_money_25 : decode cX11_money 25 = .ok (.iload_n 3, 1) := by decide +kernel
theorem dX11_money_26 : decode cX11_money 26 = .ok (.aload_n 0, 1) := by decide +kernel
theorem dX11_money_27 : decode cX11_money 27 = .ok (.getfield 24, 3) := by decide +kernel
theorem dX11_money_30 : decode cX11_money 30 = .ok (.bipush 75, 2) := by decide +kernel
theorem dX11_money_32 : decode cX11_money 32 = .ok (.iaload, 1) := by decide +kernel
theorem dX11_money_33 : decode cX11_money 33 = .ok (.if_icmp .ge 22, 3) := by decide +kernel
theorem dX11_money_36 : decode cX11_money 36 = .ok (.iload_n 1, 1) := by decide +kernel
theorem dX11_money_37 : decode cX11_money 37 = .ok (.iconst 1, 1) := by decide +kernel
theorem dX11_money_38 : decode cX11_money 38 = .ok (.if_icmp .ne 17, 3) := by decide +kernel
theorem dX11_money_41 : decode cX11_money 41 = .ok (.iload_n 2, 1) := by decide +kernel
theorem dX11_money_42 : decode cX11_money 42 = .ok (.aload_n 0, 1) := by decide +kernel
theorem dX11_money_43 : decode cX11_money 43 = .ok (.iload_n 3, 1) := by decide +kernel
theorem dX11_money_44 : decode cX11_money 44 = .ok (.invokevirtual 115, 3) := by decide +kernel
theorem dX11_money_47 : decode cX11_money 47 = .ok (.isub, 1) := by decide +kernel
theorem dX11_money_48 : decode cX11_money 48 = .ok (.istore_n 2, 1) := by decide +kernel
theorem dX11_money_49 : decode cX11_money 49 = .ok (.iinc 3 1, 3) := by decide +kernel
theorem dX11_money_52 : decode cX11_money 52 = .ok (.goto (-27), 3) := by decide +kernel
theorem dX11_money_55 : decode cX11_money 55 = .ok (.iload_n 2, 1) := by decide +kernel
theorem dX11_money_56 : decode cX11_money 56 = .ok (.ireturn, 1) := by decide +kernel
theorem dX11_aboardNow_0 : decode cX11_aboardNow 0 = .ok (.iconst 0, 1) := by decide +kernel
theorem dX11_aboardNow_1 : decode cX11_aboardNow 1 = .ok (.istore_n 1, 1) := by decide +kernel
theorem dX11_aboardNow_2 : decode cX11_aboardNow 2 = .ok (.iconst 0, 1) := by decide +kernel
theorem dX11_aboardNow_3 : decode cX11_aboardNow 3 = .ok (.istore_n 2, 1) := by decide +kernel
theorem dX11_aboardNow_4 : decode cX11_aboardNow 4 = .ok (.iload_n 2, 1) := by decide +kernel
theorem dX11_aboardNow_5 : decode cX11_aboardNow 5 = .ok (.aload_n 0, 1) := by decide +kernel
theorem dX11_aboardNow_6 : decode cX11_aboardNow 6 = .ok (.getfield 24, 3) := by decide +kernel
theorem dX11_aboardNow_9 : decode cX11_aboardNow 9 = .ok (.bipush 75, 2) := by decide +kernel
theorem dX11_aboardNow_11 : decode cX11_aboardNow 11 = .ok (.iaload, 1) := by decide +kernel
theorem dX11_aboardNow_12 : decode cX11_aboardNow 12 = .ok (.if_icmp .ge 27, 3) := by decide +kernel
theorem dX11_aboardNow_15 : decode cX11_aboardNow 15 = .ok (.iload_n 1, 1) := by decide +kernel
theorem dX11_aboardNow_16 : decode cX11_aboardNow 16 = .ok (.aload_n 0, 1) := by decide +kernel
theorem dX11_aboardNow_17 : decode cX11_aboardNow 17 = .ok (.iload_n 2, 1) := by decide +kernel
theorem dX11_aboardNow_18 : decode cX11_aboardNow 18 = .ok (.invokevirtual 118, 3) := by decide +kernel
theorem dX11_aboardNow_21 : decode cX11_aboardNow 21 = .ok (.ifCond .eq 9, 3) := by decide +kernel
theorem dX11_aboardNow_24 : decode cX11_aboardNow 24 = .ok (.iconst 1, 1) := by decide +kernel
theorem dX11_aboardNow_25 : decode cX11_aboardNow 25 = .ok (.iload_n 2, 1) := by decide +kernel
theorem dX11_aboardNow_26 : decode cX11_aboardNow 26 = .ok (.ishl, 1) := by decide +kernel
theorem dX11_aboardNow_27 : decode cX11_aboardNow 27 = .ok (.goto 4, 3) := by decide +kernel
theorem dX11_aboardNow_30 : decode cX11_aboardNow 30 = .ok (.iconst 0, 1) := by decide +kernel
theorem dX11_aboardNow_31 : decode cX11_aboardNow 31 = .ok (.ior, 1) := by decide +kernel
theorem dX11_aboardNow_32 : decode cX11_aboardNow 32 = .ok (.istore_n 1, 1) := by decide +kernel
theorem dX11_aboardNow_33 : decode cX11_aboardNow 33 = .ok (.iinc 2 1, 3) := by decide +kernel
theorem dX11_aboardNow_36 : decode cX11_aboardNow 36 = .ok (.goto (-32), 3) := by decide +kernel
theorem dX11_aboardNow_39 : decode cX11_aboardNow 39 = .ok (.iload_n 1, 1) := by decide +kernel
theorem dX11_aboardNow_40 : decode cX11_aboardNow 40 = .ok (.ireturn, 1) := by decide +kernel
theorem dX11_laysOf_0 : decode cX11_laysOf 0 = .ok (.lconst 0, 1) := by decide +kernel
theorem dX11_laysOf_1 : decode cX11_laysOf 1 = .ok (.lstore_n 2, 1) := by decide +kernel
theorem dX11_laysOf_2 : decode cX11_laysOf 2 = .ok (.iconst 0, 1) := by decide +kernel
theorem dX11_laysOf_3 : decode cX11_laysOf 3 = .ok (.istore 4, 2) := by decide +kernel
theorem dX11_laysOf_5 : decode cX11_laysOf 5 = .ok (.iload 4, 2) := by decide +kernel
theorem dX11_laysOf_7 : decode cX11_laysOf 7 = .ok (.aload_n 0, 1) := by decide +kernel
theorem dX11_laysOf_8 : decode cX11_laysOf 8 = .ok (.getfield 24, 3) := by decide +kernel
theorem dX11_laysOf_11 : decode cX11_laysOf 11 = .ok (.bipush 75, 2) := by decide +kernel
theorem dX11_laysOf_13 : decode cX11_laysOf 13 = .ok (.iaload, 1) := by decide +kernel
theorem dX11_laysOf_14 : decode cX11_laysOf 14 = .ok (.if_icmp .ge 40, 3) := by decide +kernel
theorem dX11_laysOf_17 : decode cX11_laysOf 17 = .ok (.lload_n 2, 1) := by decide +kernel
theorem dX11_laysOf_18 : decode cX11_laysOf 18 = .ok (.iload_n 1, 1) := by decide +kernel
theorem dX11_laysOf_19 : decode cX11_laysOf 19 = .ok (.iload 4, 2) := by decide +kernel
theorem dX11_laysOf_21 : decode cX11_laysOf 21 = .ok (.invokestatic 316, 3) := by decide +kernel
theorem dX11_laysOf_24 : decode cX11_laysOf 24 = .ok (.ifCond .eq 21, 3) := by decide +kernel
theorem dX11_laysOf_27 : decode cX11_laysOf 27 = .ok (.ldc2_w 368, 3) := by decide +kernel
theorem dX11_laysOf_30 : decode cX11_laysOf 30 = .ok (.aload_n 0, 1) := by decide +kernel
theorem dX11_laysOf_31 : decode cX11_laysOf 31 = .ok (.getfield 24, 3) := by decide +kernel
theorem dX11_laysOf_34 : decode cX11_laysOf 34 = .ok (.bipush 23, 2) := by decide +kernel
theorem dX11_laysOf_36 : decode cX11_laysOf 36 = .ok (.iload 4, 2) := by decide +kernel
theorem dX11_laysOf_38 : decode cX11_laysOf 38 = .ok (.iadd, 1) := by decide +kernel
theorem dX11_laysOf_39 : decode cX11_laysOf 39 = .ok (.iaload, 1) := by decide +kernel
theorem dX11_laysOf_40 : decode cX11_laysOf 40 = .ok (.i2l, 1) := by decide +kernel
theorem dX11_laysOf_41 : decode cX11_laysOf 41 = .ok (.ldiv, 1) := by decide +kernel
theorem dX11_laysOf_42 : decode cX11_laysOf 42 = .ok (.goto 4, 3) := by decide +kernel
theorem dX11_laysOf_45 : decode cX11_laysOf 45 = .ok (.lconst 0, 1) := by decide +kernel
theorem dX11_laysOf_46 : decode cX11_laysOf 46 = .ok (.ladd, 1) := by decide +kernel
theorem dX11_laysOf_47 : decode cX11_laysOf 47 = .ok (.lstore_n 2, 1) := by decide +kernel
theorem dX11_laysOf_48 : decode cX11_laysOf 48 = .ok (.iinc 4 1, 3) := by decide +kernel
theorem dX11_laysOf_51 : decode cX11_laysOf 51 = .ok (.goto (-46), 3) := by decide +kernel
theorem dX11_laysOf_54 : decode cX11_laysOf 54 = .ok (.lload_n 2, 1) := by decide +kernel
theorem dX11_laysOf_55 : decode cX11_laysOf 55 = .ok (.lreturn, 1) := by decide +kernel
theorem dX11_parts_0 : decode cX11_parts 0 = .ok (.aload_n 0, 1) := by decide +kernel
theorem dX11_parts_1 : decode cX11_parts 1 = .ok (.aload_n 0, 1) := by decide +kernel
theorem dX11_parts_2 : decode cX11_parts 2 = .ok (.invokevirtual 370, 3) := by decide +kernel
theorem dX11_parts_5 : decode cX11_parts 5 = .ok (.invokevirtual 373, 3) := by decide +kernel
theorem dX11_parts_8 : decode cX11_parts 8 = .ok (.lreturn, 1) := by decide +kernel
theorem dX11_homeWorth_0 : decode cX11_homeWorth 0 = .ok (.iload_n 1, 1) := by decide +kernel
theorem dX11_homeWorth_1 : decode cX11_homeWorth 1 = .ok (.i2l, 1) := by decide +kernel
theorem dX11_homeWorth_2 : decode cX11_homeWorth 2 = .ok (.aload_n 0, 1) := by decide +kernel
theorem dX11_homeWorth_3 : decode cX11_homeWorth 3 = .ok (.iload_n 2, 1) := by decide +kernel
theorem dX11_homeWorth_4 : decode cX11_homeWorth 4 = .ok (.invokevirtual 344, 3) := by decide +kernel
theorem dX11_homeWorth_7 : decode cX11_homeWorth 7 = .ok (.i2l, 1) := by decide +kernel
theorem dX11_homeWorth_8 : decode cX11_homeWorth 8 = .ok (.lmul, 1) := by decide +kernel
theorem dX11_homeWorth_9 : decode cX11_homeWorth 9 = .ok (.ldc2_w 377, 3) := by decide +kernel
theorem dX11_homeWorth_12 : decode cX11_homeWorth 12 = .ok (.lmul, 1) := by decide +kernel
theorem dX11_homeWorth_13 : decode cX11_homeWorth 13 = .ok (.lreturn, 1) := by decide +kernel
theorem dX11_huntWorth_0 : decode cX11_huntWorth 0 = .ok (.lconst 0, 1) := by decide +kernel
theorem dX11_huntWorth_1 : decode cX11_huntWorth 1 = .ok (.lstore 4, 2) := by decide +kernel
theorem dX11_huntWorth_3 : decode cX11_huntWorth 3 = .ok (.bipush 10, 2) := by decide +kernel
theorem dX11_huntWorth_5 : decode cX11_huntWorth 5 = .ok (.istore 6, 2) := by decide +kernel
theorem dX11_huntWorth_7 : decode cX11_huntWorth 7 = .ok (.iconst 1, 1) := by decide +kernel
theorem dX11_huntWorth_8 : decode cX11_huntWorth 8 = .ok (.istore 7, 2) := by decide +kernel
theorem dX11_huntWorth_10 : decode cX11_huntWorth 10 = .ok (.iload 7, 2) := by decide +kernel
theorem dX11_huntWorth_12 : decode cX11_huntWorth 12 = .ok (.iconst 4, 1) := by decide +kernel
theorem dX11_huntWorth_13 : decode cX11_huntWorth 13 = .ok (.if_icmp .ge 75, 3) := by decide +kernel
theorem dX11_huntWorth_16 : decode cX11_huntWorth 16 = .ok (.aload_n 0, 1) := by decide +kernel
theorem dX11_huntWorth_17 : decode cX11_huntWorth 17 = .ok (.getfield 24, 3) := by decide +kernel
theorem dX11_huntWorth_20 : decode cX11_huntWorth 20 = .ok (.bipush 39, 2) := by decide +kernel
theorem dX11_huntWorth_22 : decode cX11_huntWorth 22 = .ok (.iconst 3, 1) := by decide +kernel
theorem dX11_huntWorth_23 : decode cX11_huntWorth 23 = .ok (.iload_n 1, 1) := by decide +kernel
theorem dX11_huntWorth_24 : decode cX11_huntWorth 24 = .ok (.imul, 1) := by decide +kernel
theorem dX11_huntWorth_25 : decode cX11_huntWorth 25 = .ok (.iadd, 1) := by decide +kernel
theorem dX11_huntWorth_26 : decode cX11_huntWorth 26 = .ok (.iload 7, 2) := by decide +kernel
theorem dX11_huntWorth_28 : decode cX11_huntWorth 28 = .ok (.iadd, 1) := by decide +kernel
theorem dX11_huntWorth_29 : decode cX11_huntWorth 29 = .ok (.iconst 1, 1) := by decide +kernel
theorem dX11_huntWorth_30 : decode cX11_huntWorth 30 = .ok (.isub, 1) := by decide +kernel
theorem dX11_huntWorth_31 : decode cX11_huntWorth 31 = .ok (.iaload, 1) := by decide +kernel
theorem dX11_huntWorth_32 : decode cX11_huntWorth 32 = .ok (.istore 8, 2) := by decide +kernel
theorem dX11_huntWorth_34 : decode cX11_huntWorth 34 = .ok (.iload 6, 2) := by decide +kernel
theorem dX11_huntWorth_36 : decode cX11_huntWorth 36 = .ok (.iload 8, 2) := by decide +kernel
theorem dX11_huntWorth_38 : decode cX11_huntWorth 38 = .ok (.isub, 1) := by decide +kernel
theorem dX11_huntWorth_39 : decode cX11_huntWorth 39 = .ok (.istore 6, 2) := by decide +kernel
theorem dX11_huntWorth_41 : decode cX11_huntWorth 41 = .ok (.lload 4, 2) := by decide +kernel
theorem dX11_huntWorth_43 : decode cX11_huntWorth 43 = .ok (.iload 8, 2) := by decide +kernel
theorem dX11_huntWorth_45 : decode cX11_huntWorth 45 = .ok (.i2l, 1) := by decide +kernel
theorem dX11_huntWorth_46 : decode cX11_huntWorth 46 = .ok (.aload_n 0, 1) := by decide +kernel
theorem dX11_huntWorth_47 : decode cX11_huntWorth 47 = .ok (.getfield 71, 3) := by decide +kernel
theorem dX11_huntWorth_50 : decode cX11_huntWorth 50 = .ok (.sipush 1000, 3) := by decide +kernel
theorem dX11_huntWorth_53 : decode cX11_huntWorth 53 = .ok (.iload_n 3, 1) := by decide +kernel
theorem dX11_huntWorth_54 : decode cX11_huntWorth 54 = .ok (.imul, 1) := by decide +kernel
theorem dX11_huntWorth_55 : decode cX11_huntWorth 55 = .ok (.aload_n 0, 1) := by decide +kernel
theorem dX11_huntWorth_56 : decode cX11_huntWorth 56 = .ok (.getfield 24, 3) := by decide +kernel
theorem dX11_huntWorth_59 : decode cX11_huntWorth 59 = .ok (.bipush 73, 2) := by decide +kernel
theorem dX11_huntWorth_61 : decode cX11_huntWorth 61 = .ok (.iaload, 1) := by decide +kernel
theorem dX11_huntWorth_62 : decode cX11_huntWorth 62 = .ok (.iload_n 2, 1) := by decide +kernel
theorem dX11_huntWorth_63 : decode cX11_huntWorth 63 = .ok (.iload 7, 2) := by decide +kernel
theorem dX11_huntWorth_65 : decode cX11_huntWorth 65 = .ok (.aload_n 0, 1) := by decide +kernel
theorem dX11_huntWorth_66 : decode cX11_huntWorth 66 = .ok (.getfield 75, 3) := by decide +kernel
theorem dX11_huntWorth_69 : decode cX11_huntWorth 69 = .ok (.iload_n 1, 1) := by decide +kernel
theorem dX11_huntWorth_70 : decode cX11_huntWorth 70 = .ok (.iaload, 1) := by decide +kernel
theorem dX11_huntWorth_71 : decode cX11_huntWorth 71 = .ok (.imul, 1) := by decide +kernel
theorem dX11_huntWorth_72 : decode cX11_huntWorth 72 = .ok (.iadd, 1) := by decide +kernel
theorem dX11_huntWorth_73 : decode cX11_huntWorth 73 = .ok (.invokestatic 325, 3) := by decide +kernel
theorem dX11_huntWorth_76 : decode cX11_huntWorth 76 = .ok (.iadd, 1) := by decide +kernel
theorem dX11_huntWorth_77 : decode cX11_huntWorth 77 = .ok (.laload, 1) := by decide +kernel
theorem dX11_huntWorth_78 : decode cX11_huntWorth 78 = .ok (.lmul, 1) := by decide +kernel
theorem dX11_huntWorth_79 : decode cX11_huntWorth 79 = .ok (.ladd, 1) := by decide +kernel
theorem dX11_huntWorth_80 : decode cX11_huntWorth 80 = .ok (.lstore 4, 2) := by decide +kernel
theorem dX11_huntWorth_82 : decode cX11_huntWorth 82 = .ok (.iinc 7 1, 3) := by decide +kernel
theorem dX11_huntWorth_85 : decode cX11_huntWorth 85 = .ok (.goto (-75), 3) := by decide +kernel
theorem dX11_huntWorth_88 : decode cX11_huntWorth 88 = .ok (.lload 4, 2) := by decide +kernel
theorem dX11_huntWorth_90 : decode cX11_huntWorth 90 = .ok (.iload 6, 2) := by decide +kernel
theorem dX11_huntWorth_92 : decode cX11_huntWorth 92 = .ok (.i2l, 1) := by decide +kernel
theorem dX11_huntWorth_93 : decode cX11_huntWorth 93 = .ok (.aload_n 0, 1) := by decide +kernel
theorem dX11_huntWorth_94 : decode cX11_huntWorth 94 = .ok (.getfield 71, 3) := by decide +kernel
theorem dX11_huntWorth_97 : decode cX11_huntWorth 97 = .ok (.sipush 1000, 3) := by decide +kernel
theorem dX11_huntWorth_100 : decode cX11_huntWorth 100 = .ok (.iload_n 3, 1) := by decide +kernel
theorem dX11_huntWorth_101 : decode cX11_huntWorth 101 = .ok (.imul, 1) := by decide +kernel
theorem dX11_huntWorth_102 : decode cX11_huntWorth 102 = .ok (.iload_n 2, 1) := by decide +kernel
theorem dX11_huntWorth_103 : decode cX11_huntWorth 103 = .ok (.iadd, 1) := by decide +kernel
theorem dX11_huntWorth_104 : decode cX11_huntWorth 104 = .ok (.laload, 1) := by decide +kernel
theorem dX11_huntWorth_105 : decode cX11_huntWorth 105 = .ok (.lmul, 1) := by decide +kernel
theorem dX11_huntWorth_106 : decode cX11_huntWorth 106 = .ok (.ladd, 1) := by decide +kernel
theorem dX11_huntWorth_107 : decode cX11_huntWorth 107 = .ok (.ldc2_w 379, 3) := by decide +kernel
theorem dX11_huntWorth_110 : decode cX11_huntWorth 110 = .ok (.ldiv, 1) := by decide +kernel
theorem dX11_huntWorth_111 : decode cX11_huntWorth 111 = .ok (.lreturn, 1) := by decide +kernel
theorem dX11_choice_0 : decode cX11_choice 0 = .ok (.bipush 100, 2) := by decide +kernel
theorem dX11_choice_2 : decode cX11_choice 2 = .ok (.istore 4, 2) := by decide +kernel
theorem dX11_choice_4 : decode cX11_choice 4 = .ok (.aload_n 0, 1) := by decide +kernel
theorem dX11_choice_5 : decode cX11_choice 5 = .ok (.iload_n 1, 1) := by decide +kernel
theorem dX11_choice_6 : decode cX11_choice 6 = .ok (.iload_n 2, 1) := by decide +kernel
theorem dX11_choice_7 : decode cX11_choice 7 = .ok (.invokevirtual 381, 3) := by decide +kernel
theorem dX11_choice_10 : decode cX11_choice 10 = .ok (.lstore 5, 2) := by decide +kernel
theorem dX11_choice_12 : decode cX11_choice 12 = .ok (.iconst 0, 1) := by decide +kernel
theorem dX11_choice_13 : decode cX11_choice 13 = .ok (.istore 7, 2) := by decide +kernel
theorem dX11_choice_15 : decode cX11_choice 15 = .ok (.iload 7, 2) := by decide +kernel
theorem dX11_choice_17 : decode cX11_choice 17 = .ok (.aload_n 0, 1) := by decide +kernel
theorem dX11_choice_18 : decode cX11_choice 18 = .ok (.getfield 24, 3) := by decide +kernel
theorem dX11_choice_21 : decode cX11_choice 21 = .ok (.bipush 76, 2) := by decide +kernel
theorem dX11_choice_23 : decode cX11_choice 23 = .ok (.iaload, 1) := by decide +kernel
theorem dX11_choice_24 : decode cX11_choice 24 = .ok (.if_icmp .ge 38, 3) := by decide +kernel
theorem dX11_choice_27 : decode cX11_choice 27 = .ok (.aload_n 0, 1) := by decide +kernel
theorem dX11_choice_28 : decode cX11_choice 28 = .ok (.iload 7, 2) := by decide +kernel
theorem dX11_choice_30 : decode cX11_choice 30 = .ok (.iload_n 1, 1) := by decide +kernel
theorem dX11_choice_31 : decode cX11_choice 31 = .ok (.iload_n 3, 1) := by decide +kernel
theorem dX11_choice_32 : decode cX11_choice 32 = .ok (.invokevirtual 385, 3) := by decide +kernel
theorem dX11_choice_35 : decode cX11_choice 35 = .ok (.lstore 8, 2) := by decide +kernel
theorem dX11_choice_37 : decode cX11_choice 37 = .ok (.lload 8, 2) := by decide +kernel
theorem dX11_choice_39 : decode cX11_choice 39 = .ok (.lload 5, 2) := by decide +kernel
theorem dX11_choice_41 : decode cX11_choice 41 = .ok (.lcmp, 1) := by decide +kernel
theorem dX11_choice_42 : decode cX11_choice 42 = .ok (.ifCond .gt 6, 3) := by decide +kernel
theorem dX11_choice_45 : decode cX11_choice 45 = .ok (.goto 11, 3) := by decide +kernel
theorem dX11_choice_48 : decode cX11_choice 48 = .ok (.lload 8, 2) := by decide +kernel
theorem dX11_choice_50 : decode cX11_choice 50 = .ok (.lstore 5, 2) := by decide +kernel
theorem dX11_choice_52 : decode cX11_choice 52 = .ok (.iload 7, 2) := by decide +kernel
theorem dX11_choice_54 : decode cX11_choice 54 = .ok (.istore 4, 2) := by decide +kernel
theorem dX11_choice_56 : decode cX11_choice 56 = .ok (.iinc 7 1, 3) := by decide +kernel
theorem dX11_choice_59 : decode cX11_choice 59 = .ok (.goto (-44), 3) := by decide +kernel
theorem dX11_choice_62 : decode cX11_choice 62 = .ok (.iload 4, 2) := by decide +kernel
theorem dX11_choice_64 : decode cX11_choice 64 = .ok (.ireturn, 1) := by decide +kernel
theorem dX11_bestWorth_0 : decode cX11_bestWorth 0 = .ok (.aload_n 0, 1) := by decide +kernel
theorem dX11_bestWorth_1 : decode cX11_bestWorth 1 = .ok (.iload_n 1, 1) := by decide +kernel
theorem dX11_bestWorth_2 : decode cX11_bestWorth 2 = .ok (.iload_n 2, 1) := by decide +kernel
theorem dX11_bestWorth_3 : decode cX11_bestWorth 3 = .ok (.iload_n 3, 1) := by decide +kernel
theorem dX11_bestWorth_4 : decode cX11_bestWorth 4 = .ok (.invokevirtual 389, 3) := by decide +kernel
theorem dX11_bestWorth_7 : decode cX11_bestWorth 7 = .ok (.istore 4, 2) := by decide +kernel
theorem dX11_bestWorth_9 : decode cX11_bestWorth 9 = .ok (.iload 4, 2) := by decide +kernel
theorem dX11_bestWorth_11 : decode cX11_bestWorth 11 = .ok (.bipush 100, 2) := by decide +kernel
theorem dX11_bestWorth_13 : decode cX11_bestWorth 13 = .ok (.if_icmp .ne 10, 3) := by decide +kernel
theorem dX11_bestWorth_16 : decode cX11_bestWorth 16 = .ok (.aload_n 0, 1) := by decide +kernel
theorem dX11_bestWorth_17 : decode cX11_bestWorth 17 = .ok (.iload_n 1, 1) := by decide +kernel
theorem dX11_bestWorth_18 : decode cX11_bestWorth 18 = .ok (.iload_n 2, 1) := by decide +kernel
theorem dX11_bestWorth_19 : decode cX11_bestWorth 19 = .ok (.invokevirtual 381, 3) := by decide +kernel
theorem dX11_bestWorth_22 : decode cX11_bestWorth 22 = .ok (.lreturn, 1) := by decide +kernel
theorem dX11_bestWorth_23 : decode cX11_bestWorth 23 = .ok (.aload_n 0, 1) := by decide +kernel
theorem dX11_bestWorth_24 : decode cX11_bestWorth 24 = .ok (.iload 4, 2) := by decide +kernel
theorem dX11_bestWorth_26 : decode cX11_bestWorth 26 = .ok (.iload_n 1, 1) := by decide +kernel
theorem dX11_bestWorth_27 : decode cX11_bestWorth 27 = .ok (.iload_n 3, 1) := by decide +kernel
theorem dX11_bestWorth_28 : decode cX11_bestWorth 28 = .ok (.invokevirtual 385, 3) := by decide +kernel
theorem dX11_bestWorth_31 : decode cX11_bestWorth 31 = .ok (.lreturn, 1) := by decide +kernel
theorem dX11_laysCasks_0 : decode cX11_laysCasks 0 = .ok (.aload_n 0, 1) := by decide +kernel
theorem dX11_laysCasks_1 : decode cX11_laysCasks 1 = .ok (.invokevirtual 108, 3) := by decide +kernel
theorem dX11_laysCasks_4 : decode cX11_laysCasks 4 = .ok (.istore_n 1, 1) := by decide +kernel
theorem dX11_laysCasks_5 : decode cX11_laysCasks 5 = .ok (.iconst 0, 1) := by decide +kernel
theorem dX11_laysCasks_6 : decode cX11_laysCasks 6 = .ok (.istore_n 2, 1) := by decide +kernel
theorem dX11_laysCasks_7 : decode cX11_laysCasks 7 = .ok (.iload_n 2, 1) := by decide +kernel
theorem dX11_laysCasks_8 : decode cX11_laysCasks 8 = .ok (.aload_n 0, 1) := by decide +kernel
theorem dX11_laysCasks_9 : decode cX11_laysCasks 9 = .ok (.getfield 24, 3) := by decide +kernel
theorem dX11_laysCasks_12 : decode cX11_laysCasks 12 = .ok (.bipush 76, 2) := by decide +kernel
theorem dX11_laysCasks_14 : decode cX11_laysCasks 14 = .ok (.iaload, 1) := by decide +kernel
theorem dX11_laysCasks_15 : decode cX11_laysCasks 15 = .ok (.if_icmp .ge 21, 3) := by decide +kernel
theorem dX11_laysCasks_18 : decode cX11_laysCasks 18 = .ok (.aload_n 0, 1) := by decide +kernel
theorem dX11_laysCasks_19 : decode cX11_laysCasks 19 = .ok (.getfield 75, 3) := by decide +kernel
theorem dX11_laysCasks_22 : decode cX11_laysCasks 22 = .ok (.iload_n 2, 1) := by decide +kernel
theorem dX11_laysCasks_23 : decode cX11_laysCasks 23 = .ok (.aload_n 0, 1) := by decide +kernel
theorem dX11_laysCasks_24 : decode cX11_laysCasks 24 = .ok (.iload_n 2, 1) := by decide +kernel
theorem dX11_laysCasks_25 : decode cX11_laysCasks 25 = .ok (.iload_n 1, 1) := by decide +kernel
theorem dX11_laysCasks_26 : decode cX11_laysCasks 26 = .ok (.invokevirtual 132, 3) := by decide +kernel
theorem dX11_laysCasks_29 : decode cX11_laysCasks 29 = .ok (.iastore, 1) := by decide +kernel
theorem dX11_laysCasks_30 : decode cX11_laysCasks 30 = .ok (.iinc 2 1, 3) := by decide +kernel
theorem dX11_laysCasks_33 : decode cX11_laysCasks 33 = .ok (.goto (-26), 3) := by decide +kernel
theorem dX11_laysCasks_36 : decode cX11_laysCasks 36 = .ok (.return_, 1) := by decide +kernel
theorem dX11_best_0 : decode cX11_best 0 = .ok (.iload_n 1, 1) := by decide +kernel
theorem dX11_best_1 : decode cX11_best 1 = .ok (.iconst 0, 1) := by decide +kernel
theorem dX11_best_2 : decode cX11_best 2 = .ok (.bipush 12, 2) := by decide +kernel
theorem dX11_best_4 : decode cX11_best 4 = .ok (.invokestatic 90, 3) := by decide +kernel
theorem dX11_best_7 : decode cX11_best 7 = .ok (.ifCond .eq 12, 3) := by decide +kernel
theorem dX11_best_10 : decode cX11_best 10 = .ok (.iload_n 2, 1) := by decide +kernel
theorem dX11_best_11 : decode cX11_best 11 = .ok (.iconst 0, 1) := by decide +kernel
theorem dX11_best_12 : decode cX11_best 12 = .ok (.iconst 1, 1) := by decide +kernel
theorem dX11_best_13 : decode cX11_best 13 = .ok (.invokestatic 90, 3) := by decide +kernel
theorem dX11_best_16 : decode cX11_best 16 = .ok (.ifCond .ne 7, 3) := by decide +kernel
theorem dX11_best_19 : decode cX11_best 19 = .ok (.ldc2_w 392, 3) := by decide +kernel
theorem dX11_best_22 : decode cX11_best 22 = .ok (.lreturn, 1) := by decide +kernel
theorem dX11_best_23 : decode cX11_best 23 = .ok (.bipush 71, 2) := by decide +kernel
theorem dX11_best_25 : decode cX11_best 25 = .ok (.aload_n 0, 1) := by decide +kernel
theorem dX11_best_26 : decode cX11_best 26 = .ok (.getfield 24, 3) := by decide +kernel
theorem dX11_best_29 : decode cX11_best 29 = .ok (.iconst 2, 1) := by decide +kernel
theorem dX11_best_30 : decode cX11_best 30 = .ok (.iaload, 1) := by decide +kernel
theorem dX11_best_31 : decode cX11_best 31 = .ok (.iload_n 1, 1) := by decide +kernel
theorem dX11_best_32 : decode cX11_best 32 = .ok (.iadd, 1) := by decide +kernel
theorem dX11_best_33 : decode cX11_best 33 = .ok (.invokestatic 325, 3) := by decide +kernel
theorem dX11_best_36 : decode cX11_best 36 = .ok (.istore_n 3, 1) := by decide +kernel
theorem dX11_best_37 : decode cX11_best 37 = .ok (.iconst 0, 1) := by decide +kernel
theorem dX11_best_38 : decode cX11_best 38 = .ok (.istore 4, 2) := by decide +kernel
theorem dX11_best_40 : decode cX11_best 40 = .ok (.aload_n 0, 1) := by decide +kernel
theorem dX11_best_41 : decode cX11_best 41 = .ok (.invokevirtual 394, 3) := by decide +kernel
theorem dX11_best_44 : decode cX11_best 44 = .ok (.iconst 0, 1) := by decide +kernel
theorem dX11_best_45 : decode cX11_best 45 = .ok (.istore 5, 2) := by decide +kernel
theorem dX11_best_47 : decode cX11_best 47 = .ok (.iload 5, 2) := by decide +kernel
theorem dX11_best_49 : decode cX11_best 49 = .ok (.aload_n 0, 1) := by decide +kernel
theorem dX11_best_50 : decode cX11_best 50 = .ok (.getfield 24, 3) := by decide +kernel
theorem dX11_best_53 : decode cX11_best 53 = .ok (.bipush 73, 2) := by decide +kernel
theorem dX11_best_55 : decode cX11_best 55 = .ok (.iaload, 1) := by decide +kernel
theorem dX11_best_56 : decode cX11_best 56 = .ok (.if_icmp .gt 23, 3) := by decide +kernel
theorem dX11_best_59 : decode cX11_best 59 = .ok (.aload_n 0, 1) := by decide +kernel
theorem dX11_best_60 : decode cX11_best 60 = .ok (.getfield 71, 3) := by decide +kernel
theorem dX11_best_63 : decode cX11_best 63 = .ok (.iload 5, 2) := by decide +kernel
theorem dX11_best_65 : decode cX11_best 65 = .ok (.aload_n 0, 1) := by decide +kernel
theorem dX11_best_66 : decode cX11_best 66 = .ok (.iload 5, 2) := by decide +kernel
theorem dX11_best_68 : decode cX11_best 68 = .ok (.iload_n 3, 1) := by decide +kernel
theorem dX11_best_69 : decode cX11_best 69 = .ok (.invokevirtual 381, 3) := by decide +kernel
theorem dX11_best_72 : decode cX11_best 72 = .ok (.lastore, 1) := by decide +kernel
theorem dX11_best_73 : decode cX11_best 73 = .ok (.iinc 5 1, 3) := by decide +kernel
theorem dX11_best_76 : decode cX11_best 76 = .ok (.goto (-29), 3) := by decide +kernel
theorem dX11_best_79 : decode cX11_best 79 = .ok (.bipush 100, 2) := by decide +kernel
theorem dX11_best_81 : decode cX11_best 81 = .ok (.istore 5, 2) := by decide +kernel
theorem dX11_best_83 : decode cX11_best 83 = .ok (.iload_n 3, 1) := by decide +kernel
theorem dX11_best_84 : decode cX11_best 84 = .ok (.iconst 1, 1) := by decide +kernel
theorem dX11_best_85 : decode cX11_best 85 = .ok (.isub, 1) := by decide +kernel
theorem dX11_best_86 : decode cX11_best 86 = .ok (.istore 6, 2) := by decide +kernel
theorem dX11_best_88 : decode cX11_best 88 = .ok (.iload 6, 2) := by decide +kernel
theorem dX11_best_90 : decode cX11_best 90 = .ok (.aload_n 0, 1) := by decide +kernel
theorem dX11_best_91 : decode cX11_best 91 = .ok (.getfield 24, 3) := by decide +kernel
theorem dX11_best_94 : decode cX11_best 94 = .ok (.iconst 2, 1) := by decide +kernel
theorem dX11_best_95 : decode cX11_best 95 = .ok (.iaload, 1) := by decide +kernel
theorem dX11_best_96 : decode cX11_best 96 = .ok (.if_icmp .lt 78, 3) := by decide +kernel
theorem dX11_best_99 : decode cX11_best 99 = .ok (.aload_n 0, 1) := by decide +kernel
theorem dX11_best_100 : decode cX11_best 100 = .ok (.aload_n 0, 1) := by decide +kernel
theorem dX11_best_101 : decode cX11_best 101 = .ok (.getfield 24, 3) := by decide +kernel
theorem dX11_best_104 : decode cX11_best 104 = .ok (.iconst 0, 1) := by decide +kernel
theorem dX11_best_105 : decode cX11_best 105 = .ok (.iaload, 1) := by decide +kernel
theorem dX11_best_106 : decode cX11_best 106 = .ok (.iload 6, 2) := by decide +kernel
theorem dX11_best_108 : decode cX11_best 108 = .ok (.iload 4, 2) := by decide +kernel
theorem dX11_best_110 : decode cX11_best 110 = .ok (.invokevirtual 389, 3) := by decide +kernel
theorem dX11_best_113 : decode cX11_best 113 = .ok (.istore 5, 2) := by decide +kernel
theorem dX11_best_115 : decode cX11_best 115 = .ok (.iconst 0, 1) := by decide +kernel
theorem dX11_best_116 : decode cX11_best 116 = .ok (.istore 7, 2) := by decide +kernel
theorem dX11_best_118 : decode cX11_best 118 = .ok (.iload 7, 2) := by decide +kernel
theorem dX11_best_120 : decode cX11_best 120 = .ok (.aload_n 0, 1) := by decide +kernel
theorem dX11_best_121 : decode cX11_best 121 = .ok (.getfield 24, 3) := by decide +kernel
theorem dX11_best_124 : decode cX11_best 124 = .ok (.bipush 73, 2) := by decide +kernel
theorem dX11_best_126 : decode cX11_best 126 = .ok (.iaload, 1) := by decide +kernel
theorem dX11_best_127 : decode cX11_best 127 = .ok (.if_icmp .gt 35, 3) := by decide +kernel
theorem dX11_best_130 : decode cX11_best 130 = .ok (.aload_n 0, 1) := by decide +kernel
theorem dX11_best_131 : decode cX11_best 131 = .ok (.getfield 71, 3) := by decide +kernel
theorem dX11_best_134 : decode cX11_best 134 = .ok (.sipush 1000, 3) := by decide +kernel
theorem dX11_best_137 : decode cX11_best 137 = .ok (.iconst 1, 1) := by decide +kernel
theorem dX11_best_138 : decode cX11_best 138 = .ok (.iload 4, 2) := by decide +kernel
theorem dX11_best_140 : decode cX11_best 140 = .ok (.isub, 1) := by decide +kernel
theorem dX11_best_141 : decode cX11_best 141 = .ok (.imul, 1) := by decide +kernel
theorem dX11_best_142 : decode cX11_best 142 = .ok (.iload 7, 2) := by decide +kernel
theorem dX11_best_144 : decode cX11_best 144 = .ok (.iadd, 1) := by decide +kernel
theorem dX11_best_145 : decode cX11_best 145 = .ok (.aload_n 0, 1) := by decide +kernel
theorem dX11_best_146 : decode cX11_best 146 = .ok (.iload 7, 2) := by decide +kernel
theorem dX11_best_148 : decode cX11_best 148 = .ok (.iload 6, 2) := by decide +kernel
theorem dX11_best_150 : decode cX11_best 150 = .ok (.iload 4, 2) := by decide +kernel
theorem dX11_best_152 : decode cX11_best 152 = .ok (.invokevirtual 397, 3) := by decide +kernel
theorem dX11_best_155 : decode cX11_best 155 = .ok (.lastore, 1) := by decide +kernel
theorem dX11_best_156 : decode cX11_best 156 = .ok (.iinc 7 1, 3) := by decide +kernel
theorem dX11_best_159 : decode cX11_best 159 = .ok (.goto (-41), 3) := by decide +kernel
theorem dX11_best_162 : decode cX11_best 162 = .ok (.iconst 1, 1) := by decide +kernel
theorem dX11_best_163 : decode cX11_best 163 = .ok (.iload 4, 2) := by decide +kernel
theorem dX11_best_165 : decode cX11_best 165 = .ok (.isub, 1) := by decide +kernel
theorem dX11_best_166 : decode cX11_best 166 = .ok (.istore 4, 2) := by decide +kernel
theorem dX11_best_168 : decode cX11_best 168 = .ok (.iinc 6 (-1), 3) := by decide +kernel
theorem dX11_best_171 : decode cX11_best 171 = .ok (.goto (-83), 3) := by decide +kernel
theorem dX11_best_174 : decode cX11_best 174 = .ok (.iload_n 2, 1) := by decide +kernel
theorem dX11_best_175 : decode cX11_best 175 = .ok (.ifCond .ne 24, 3) := by decide +kernel
theorem dX11_best_178 : decode cX11_best 178 = .ok (.aload_n 0, 1) := by decide +kernel
theorem dX11_best_179 : decode cX11_best 179 = .ok (.getfield 71, 3) := by decide +kernel
theorem dX11_best_182 : decode cX11_best 182 = .ok (.sipush 1000, 3) := by decide +kernel
theorem dX11_best_185 : decode cX11_best 185 = .ok (.iload 4, 2) := by decide +kernel
theorem dX11_best_187 : decode cX11_best 187 = .ok (.imul, 1) := by decide +kernel
theorem dX11_best_188 : decode cX11_best 188 = .ok (.aload_n 0, 1) := by decide +kernel
theorem dX11_best_189 : decode cX11_best 189 = .ok (.getfield 24, 3) := by decide +kernel
theorem dX11_best_192 : decode cX11_best 192 = .ok (.iconst 0, 1) := by decide +kernel
theorem dX11_best_193 : decode cX11_best 193 = .ok (.iaload, 1) := by decide +kernel
theorem dX11_best_194 : decode cX11_best 194 = .ok (.iadd, 1) := by decide +kernel
theorem dX11_best_195 : decode cX11_best 195 = .ok (.laload, 1) := by decide +kernel
theorem dX11_best_196 : decode cX11_best 196 = .ok (.goto 6, 3) := by decide +kernel
theorem dX11_best_199 : decode cX11_best 199 = .ok (.iload 5, 2) := by decide +kernel
theorem dX11_best_201 : decode cX11_best 201 = .ok (.i2l, 1) := by decide +kernel
theorem dX11_best_202 : decode cX11_best 202 = .ok (.lreturn, 1) := by decide +kernel
theorem dX11_spreadsPart_0 : decode cX11_spreadsPart 0 = .ok (.aload_n 0, 1) := by decide +kernel
theorem dX11_spreadsPart_1 : decode cX11_spreadsPart 1 = .ok (.getfield 71, 3) := by decide +kernel
theorem dX11_spreadsPart_4 : decode cX11_spreadsPart 4 = .ok (.sipush 1000, 3) := by decide +kernel
theorem dX11_spreadsPart_7 : decode cX11_spreadsPart 7 = .ok (.iload 4, 2) := by decide +kernel
theorem dX11_spreadsPart_9 : decode cX11_spreadsPart 9 = .ok (.imul, 1) := by decide +kernel
theorem dX11_spreadsPart_10 : decode cX11_spreadsPart 10 = .ok (.iload_n 3, 1) := by decide +kernel
theorem dX11_spreadsPart_11 : decode cX11_spreadsPart 11 = .ok (.iadd, 1) := by decide +kernel
theorem dX11_spreadsPart_12 : decode cX11_spreadsPart 12 = .ok (.laload, 1) := by decide +kernel
theorem dX11_spreadsPart_13 : decode cX11_spreadsPart 13 = .ok (.lstore 5, 2) := by decide +kernel
theorem dX11_spreadsPart_15 : decode cX11_spreadsPart 15 = .ok (.sipush 1000, 3) := by decide +kernel
theorem dX11_spreadsPart_18 : decode cX11_spreadsPart 18 = .ok (.iconst 1, 1) := by decide +kernel
theorem dX11_spreadsPart_19 : decode cX11_spreadsPart 19 = .ok (.iload 4, 2) := by decide +kernel
theorem dX11_spreadsPart_21 : decode cX11_spreadsPart 21 = .ok (.isub, 1) := by decide +kernel
theorem dX11_spreadsPart_22 : decode cX11_spreadsPart 22 = .ok (.imul, 1) := by decide +kernel
theorem dX11_spreadsPart_23 : decode cX11_spreadsPart 23 = .ok (.istore 7, 2) := by decide +kernel
theorem dX11_spreadsPart_25 : decode cX11_spreadsPart 25 = .ok (.bipush 10, 2) := by decide +kernel
theorem dX11_spreadsPart_27 : decode cX11_spreadsPart 27 = .ok (.istore 8, 2) := by decide +kernel
theorem dX11_spreadsPart_29 : decode cX11_spreadsPart 29 = .ok (.iconst 1, 1) := by decide +kernel
theorem dX11_spreadsPart_30 : decode cX11_spreadsPart 30 = .ok (.istore 9, 2) := by decide +kernel
theorem dX11_spreadsPart_32 : decode cX11_spreadsPart 32 = .ok (.iload 9, 2) := by decide +kernel
theorem dX11_spreadsPart_34 : decode cX11_spreadsPart 34 = .ok (.iconst 4, 1) := by decide +kernel
theorem dX11_spreadsPart_35 : decode cX11_spreadsPart 35 = .ok (.if_icmp .ge 71, 3) := by decide +kernel
theorem dX11_spreadsPart_38 : decode cX11_spreadsPart 38 = .ok (.aload_n 0, 1) := by decide +kernel
theorem dX11_spreadsPart_39 : decode cX11_spreadsPart 39 = .ok (.getfield 24, 3) := by decide +kernel
theorem dX11_spreadsPart_42 : decode cX11_spreadsPart 42 = .ok (.bipush 39, 2) := by decide +kernel
theorem dX11_spreadsPart_44 : decode cX11_spreadsPart 44 = .ok (.iconst 3, 1) := by decide +kernel
theorem dX11_spreadsPart_45 : decode cX11_spreadsPart 45 = .ok (.iload_n 1, 1) := by decide +kernel
theorem dX11_spreadsPart_46 : decode cX11_spreadsPart 46 = .ok (.imul, 1) := by decide +kernel
theorem dX11_spreadsPart_47 : decode cX11_spreadsPart 47 = .ok (.iadd, 1) := by decide +kernel
theorem dX11_spreadsPart_48 : decode cX11_spreadsPart 48 = .ok (.iload 9, 2) := by decide +kernel
theorem dX11_spreadsPart_50 : decode cX11_spreadsPart 50 = .ok (.iadd, 1) := by decide +kernel
theorem dX11_spreadsPart_51 : decode cX11_spreadsPart 51 = .ok (.iconst 1, 1) := by decide +kernel
theorem dX11_spreadsPart_52 : decode cX11_spreadsPart 52 = .ok (.isub, 1) := by decide +kernel
theorem dX11_spreadsPart_53 : decode cX11_spreadsPart 53 = .ok (.iaload, 1) := by decide +kernel
theorem dX11_spreadsPart_54 : decode cX11_spreadsPart 54 = .ok (.istore 10, 2) := by decide +kernel
theorem dX11_spreadsPart_56 : decode cX11_spreadsPart 56 = .ok (.iload 8, 2) := by decide +kernel
theorem dX11_spreadsPart_58 : decode cX11_spreadsPart 58 = .ok (.iload 10, 2) := by decide +kernel
theorem dX11_spreadsPart_60 : decode cX11_spreadsPart 60 = .ok (.isub, 1) := by decide +kernel
theorem dX11_spreadsPart_61 : decode cX11_spreadsPart 61 = .ok (.istore 8, 2) := by decide +kernel
theorem dX11_spreadsPart_63 : decode cX11_spreadsPart 63 = .ok (.aload_n 0, 1) := by decide +kernel
theorem dX11_spreadsPart_64 : decode cX11_spreadsPart 64 = .ok (.getfield 71, 3) := by decide +kernel
theorem dX11_spreadsPart_67 : decode cX11_spreadsPart 67 = .ok (.iload 7, 2) := by decide +kernel
theorem dX11_spreadsPart_69 : decode cX11_spreadsPart 69 = .ok (.aload_n 0, 1) := by decide +kernel
theorem dX11_spreadsPart_70 : decode cX11_spreadsPart 70 = .ok (.getfield 24, 3) := by decide +kernel
theorem dX11_spreadsPart_73 : decode cX11_spreadsPart 73 = .ok (.bipush 73, 2) := by decide +kernel
theorem dX11_spreadsPart_75 : decode cX11_spreadsPart 75 = .ok (.iaload, 1) := by decide +kernel
theorem dX11_spreadsPart_76 : decode cX11_spreadsPart 76 = .ok (.iload_n 3, 1) := by decide +kernel
theorem dX11_spreadsPart_77 : decode cX11_spreadsPart 77 = .ok (.iload 9, 2) := by decide +kernel
theorem dX11_spreadsPart_79 : decode cX11_spreadsPart 79 = .ok (.iload_n 2, 1) := by decide +kernel
theorem dX11_spreadsPart_80 : decode cX11_spreadsPart 80 = .ok (.imul, 1) := by decide +kernel
theorem dX11_spreadsPart_81 : decode cX11_spreadsPart 81 = .ok (.iadd, 1) := by decide +kernel
theorem dX11_spreadsPart_82 : decode cX11_spreadsPart 82 = .ok (.invokestatic 325, 3) := by decide +kernel
theorem dX11_spreadsPart_85 : decode cX11_spreadsPart 85 = .ok (.iadd, 1) := by decide +kernel
theorem dX11_spreadsPart_86 : decode cX11_spreadsPart 86 = .ok (.dup2, 1) := by decide +kernel
theorem dX11_spreadsPart_87 : decode cX11_spreadsPart 87 = .ok (.laload, 1) := by decide +kernel
theorem dX11_spreadsPart_88 : decode cX11_spreadsPart 88 = .ok (.lload 5, 2) := by decide +kernel
theorem dX11_spreadsPart_90 : decode cX11_spreadsPart 90 = .ok (.iload 10, 2) := by decide +kernel
theorem dX11_spreadsPart_92 : decode cX11_spreadsPart 92 = .ok (.i2l, 1) := by decide +kernel
theorem dX11_spreadsPart_93 : decode cX11_spreadsPart 93 = .ok (.lmul, 1) := by decide +kernel
theorem dX11_spreadsPart_94 : decode cX11_spreadsPart 94 = .ok (.ldc2_w 379, 3) := by decide +kernel
theorem dX11_spreadsPart_97 : decode cX11_spreadsPart 97 = .ok (.ldiv, 1) := by decide +kernel
theorem dX11_spreadsPart_98 : decode cX11_spreadsPart 98 = .ok (.ladd, 1) := by decide +kernel
theorem dX11_spreadsPart_99 : decode cX11_spreadsPart 99 = .ok (.lastore, 1) := by decide +kernel
theorem dX11_spreadsPart_100 : decode cX11_spreadsPart 100 = .ok (.iinc 9 1, 3) := by decide +kernel
theorem dX11_spreadsPart_103 : decode cX11_spreadsPart 103 = .ok (.goto (-71), 3) := by decide +kernel
theorem dX11_spreadsPart_106 : decode cX11_spreadsPart 106 = .ok (.aload_n 0, 1) := by decide +kernel
theorem dX11_spreadsPart_107 : decode cX11_spreadsPart 107 = .ok (.getfield 71, 3) := by decide +kernel
theorem dX11_spreadsPart_110 : decode cX11_spreadsPart 110 = .ok (.iload 7, 2) := by decide +kernel
theorem dX11_spreadsPart_112 : decode cX11_spreadsPart 112 = .ok (.iload_n 3, 1) := by decide +kernel
theorem dX11_spreadsPart_113 : decode cX11_spreadsPart 113 = .ok (.iadd, 1) := by decide +kernel
theorem dX11_spreadsPart_114 : decode cX11_spreadsPart 114 = .ok (.dup2, 1) := by decide +kernel
theorem dX11_spreadsPart_115 : decode cX11_spreadsPart 115 = .ok (.laload, 1) := by decide +kernel
theorem dX11_spreadsPart_116 : decode cX11_spreadsPart 116 = .ok (.lload 5, 2) := by decide +kernel
theorem dX11_spreadsPart_118 : decode cX11_spreadsPart 118 = .ok (.iload 8, 2) := by decide +kernel
theorem dX11_spreadsPart_120 : decode cX11_spreadsPart 120 = .ok (.i2l, 1) := by decide +kernel
theorem dX11_spreadsPart_121 : decode cX11_spreadsPart 121 = .ok (.lmul, 1) := by decide +kernel
theorem dX11_spreadsPart_122 : decode cX11_spreadsPart 122 = .ok (.ldc2_w 379, 3) := by decide +kernel
theorem dX11_spreadsPart_125 : decode cX11_spreadsPart 125 = .ok (.ldiv, 1) := by decide +kernel
theorem dX11_spreadsPart_126 : decode cX11_spreadsPart 126 = .ok (.ladd, 1) := by decide +kernel
theorem dX11_spreadsPart_127 : decode cX11_spreadsPart 127 = .ok (.lastore, 1) := by decide +kernel
theorem dX11_spreadsPart_128 : decode cX11_spreadsPart 128 = .ok (.return_, 1) := by decide +kernel
theorem dX11_partsFrom_0 : decode cX11_partsFrom 0 = .ok (.lconst 0, 1) := by decide +kernel
theorem dX11_partsFrom_1 : decode cX11_partsFrom 1 = .ok (.lstore_n 3, 1) := by decide +kernel
theorem dX11_partsFrom_2 : decode cX11_partsFrom 2 = .ok (.iload_n 1, 1) := by decide +kernel
theorem dX11_partsFrom_3 : decode cX11_partsFrom 3 = .ok (.istore 5, 2) := by decide +kernel
theorem dX11_partsFrom_5 : decode cX11_partsFrom 5 = .ok (.iload 5, 2) := by decide +kernel
theorem dX11_partsFrom_7 : decode cX11_partsFrom 7 = .ok (.sipush 1000, 3) := by decide +kernel
theorem dX11_partsFrom_10 : decode cX11_partsFrom 10 = .ok (.if_icmp .ge 25, 3) := by decide +kernel
theorem dX11_partsFrom_13 : decode cX11_partsFrom 13 = .ok (.lload_n 3, 1) := by decide +kernel
theorem dX11_partsFrom_14 : decode cX11_partsFrom 14 = .ok (.aload_n 0, 1) := by decide +kernel
theorem dX11_partsFrom_15 : decode cX11_partsFrom 15 = .ok (.getfield 71, 3) := by decide +kernel
theorem dX11_partsFrom_18 : decode cX11_partsFrom 18 = .ok (.sipush 1000, 3) := by decide +kernel
theorem dX11_partsFrom_21 : decode cX11_partsFrom 21 = .ok (.iload_n 2, 1) := by decide +kernel
theorem dX11_partsFrom_22 : decode cX11_partsFrom 22 = .ok (.imul, 1) := by decide +kernel
theorem dX11_partsFrom_23 : decode cX11_partsFrom 23 = .ok (.iload 5, 2) := by decide +kernel
theorem dX11_partsFrom_25 : decode cX11_partsFrom 25 = .ok (.iadd, 1) := by decide +kernel
theorem dX11_partsFrom_26 : decode cX11_partsFrom 26 = .ok (.laload, 1) := by decide +kernel
theorem dX11_partsFrom_27 : decode cX11_partsFrom 27 = .ok (.ladd, 1) := by decide +kernel
theorem dX11_partsFrom_28 : decode cX11_partsFrom 28 = .ok (.lstore_n 3, 1) := by decide +kernel
theorem dX11_partsFrom_29 : decode cX11_partsFrom 29 = .ok (.iinc 5 1, 3) := by decide +kernel
theorem dX11_partsFrom_32 : decode cX11_partsFrom 32 = .ok (.goto (-27), 3) := by decide +kernel
theorem dX11_partsFrom_35 : decode cX11_partsFrom 35 = .ok (.lload_n 3, 1) := by decide +kernel
theorem dX11_partsFrom_36 : decode cX11_partsFrom 36 = .ok (.lreturn, 1) := by decide +kernel
theorem dX11_odds_0 : decode cX11_odds 0 = .ok (.aload_n 0, 1) := by decide +kernel
theorem dX11_odds_1 : decode cX11_odds 1 = .ok (.iload_n 1, 1) := by decide +kernel
theorem dX11_odds_2 : decode cX11_odds 2 = .ok (.invokevirtual 129, 3) := by decide +kernel
theorem dX11_odds_5 : decode cX11_odds 5 = .ok (.ifCond .eq 24, 3) := by decide +kernel
theorem dX11_odds_8 : decode cX11_odds 8 = .ok (.iload_n 2, 1) := by decide +kernel
theorem dX11_odds_9 : decode cX11_odds 9 = .ok (.iconst 0, 1) := by decide +kernel
theorem dX11_odds_10 : decode cX11_odds 10 = .ok (.bipush 24, 2) := by decide +kernel
theorem dX11_odds_12 : decode cX11_odds 12 = .ok (.invokestatic 90, 3) := by decide +kernel
theorem dX11_odds_15 : decode cX11_odds 15 = .ok (.ifCond .eq 14, 3) := by decide +kernel
theorem dX11_odds_18 : decode cX11_odds 18 = .ok (.iload_n 3, 1) := by decide +kernel
theorem dX11_odds_19 : decode cX11_odds 19 = .ok (.iconst 0, 1) := by decide +kernel
theorem dX11_odds_20 : decode cX11_odds 20 = .ok (.sipush 999, 3) := by decide +kernel
theorem dX11_odds_23 : decode cX11_odds 23 = .ok (.invokestatic 90, 3) := by decide +kernel
theorem dX11_odds_26 : decode cX11_odds 26 = .ok (.ifCond .ne 7, 3) := by decide +kernel
theorem dX11_odds_29 : decode cX11_odds 29 = .ok (.ldc2_w 392, 3) := by decide +kernel
theorem dX11_odds_32 : decode cX11_odds 32 = .ok (.lreturn, 1) := by decide +kernel
theorem dX11_odds_33 : decode cX11_odds 33 = .ok (.aload_n 0, 1) := by decide +kernel
theorem dX11_odds_34 : decode cX11_odds 34 = .ok (.iload_n 1, 1) := by decide +kernel
theorem dX11_odds_35 : decode cX11_odds 35 = .ok (.aload_n 0, 1) := by decide +kernel
theorem dX11_odds_36 : decode cX11_odds 36 = .ok (.invokevirtual 108, 3) := by decide +kernel
theorem dX11_odds_39 : decode cX11_odds 39 = .ok (.invokevirtual 132, 3) := by decide +kernel
theorem dX11_odds_42 : decode cX11_odds 42 = .ok (.istore 4, 2) := by decide +kernel
theorem dX11_odds_44 : decode cX11_odds 44 = .ok (.iconst 0, 1) := by decide +kernel
theorem dX11_odds_45 : decode cX11_odds 45 = .ok (.istore 5, 2) := by decide +kernel
theorem dX11_odds_47 : decode cX11_odds 47 = .ok (.iconst 0, 1) := by decide +kernel
theorem dX11_odds_48 : decode cX11_odds 48 = .ok (.istore 6, 2) := by decide +kernel
theorem dX11_odds_50 : decode cX11_odds 50 = .ok (.iload 6, 2) := by decide +kernel
theorem dX11_odds_52 : decode cX11_odds 52 = .ok (.sipush 2000, 3) := by decide +kernel
theorem dX11_odds_55 : decode cX11_odds 55 = .ok (.if_icmp .ge 17, 3) := by decide +kernel
theorem dX11_odds_58 : decode cX11_odds 58 = .ok (.aload_n 0, 1) := by decide +kernel
theorem dX11_odds_59 : decode cX11_odds 59 = .ok (.getfield 71, 3) := by decide +kernel
theorem dX11_odds_62 : decode cX11_odds 62 = .ok (.iload 6, 2) := by decide +kernel
theorem dX11_odds_64 : decode cX11_odds 64 = .ok (.lconst 0, 1) := by decide +kernel
theorem dX11_odds_65 : decode cX11_odds 65 = .ok (.lastore, 1) := by decide +kernel
theorem dX11_odds_66 : decode cX11_odds 66 = .ok (.iinc 6 1, 3) := by decide +kernel
theorem dX11_odds_69 : decode cX11_odds 69 = .ok (.goto (-19), 3) := by decide +kernel
theorem dX11_odds_72 : decode cX11_odds 72 = .ok (.aload_n 0, 1) := by decide +kernel
theorem dX11_odds_73 : decode cX11_odds 73 = .ok (.getfield 71, 3) := by decide +kernel
theorem dX11_odds_76 : decode cX11_odds 76 = .ok (.aload_n 0, 1) := by decide +kernel
theorem dX11_odds_77 : decode cX11_odds 77 = .ok (.getfield 24, 3) := by decide +kernel
theorem dX11_odds_80 : decode cX11_odds 80 = .ok (.iconst 0, 1) := by decide +kernel
theorem dX11_odds_81 : decode cX11_odds 81 = .ok (.iaload, 1) := by decide +kernel
theorem dX11_odds_82 : decode cX11_odds 82 = .ok (.ldc2_w 368, 3) := by decide +kernel
theorem dX11_odds_85 : decode cX11_odds 85 = .ok (.lastore, 1) := by decide +kernel
theorem dX11_odds_86 : decode cX11_odds 86 = .ok (.iconst 0, 1) := by decide +kernel
theorem dX11_odds_87 : decode cX11_odds 87 = .ok (.istore 6, 2) := by decide +kernel
theorem dX11_odds_89 : decode cX11_odds 89 = .ok (.iload 6, 2) := by decide +kernel
theorem dX11_odds_91 : decode cX11_odds 91 = .ok (.iload_n 2, 1) := by decide +kernel
theorem dX11_odds_92 : decode cX11_odds 92 = .ok (.if_icmp .ge 100, 3) := by decide +kernel
theorem dX11_odds_95 : decode cX11_odds 95 = .ok (.iconst 0, 1) := by decide +kernel
theorem dX11_odds_96 : decode cX11_odds 96 = .ok (.istore 7, 2) := by decide +kernel
theorem dX11_odds_98 : decode cX11_odds 98 = .ok (.iload 7, 2) := by decide +kernel
theorem dX11_odds_100 : decode cX11_odds 100 = .ok (.sipush 1000, 3) := by decide +kernel
theorem dX11_odds_103 : decode cX11_odds 103 = .ok (.if_icmp .ge 26, 3) := by decide +kernel
theorem dX11_odds_106 : decode cX11_odds 106 = .ok (.aload_n 0, 1) := by decide +kernel
theorem dX11_odds_107 : decode cX11_odds 107 = .ok (.getfield 71, 3) := by decide +kernel
theorem dX11_odds_110 : decode cX11_odds 110 = .ok (.sipush 1000, 3) := by decide +kernel
theorem dX11_odds_113 : decode cX11_odds 113 = .ok (.iconst 1, 1) := by decide +kernel
theorem dX11_odds_114 : decode cX11_odds 114 = .ok (.iload 5, 2) := by decide +kernel
theorem dX11_odds_116 : decode cX11_odds 116 = .ok (.isub, 1) := by decide +kernel
theorem dX11_odds_117 : decode cX11_odds 117 = .ok (.imul, 1) := by decide +kernel
theorem dX11_odds_118 : decode cX11_odds 118 = .ok (.iload 7, 2) := by decide +kernel
theorem dX11_odds_120 : decode cX11_odds 120 = .ok (.iadd, 1) := by decide +kernel
theorem dX11_odds_121 : decode cX11_odds 121 = .ok (.lconst 0, 1) := by decide +kernel
theorem dX11_odds_122 : decode cX11_odds 122 = .ok (.lastore, 1) := by decide +kernel
theorem dX11_odds_123 : decode cX11_odds 123 = .ok (.iinc 7 1, 3) := by decide +kernel
theorem dX11_odds_126 : decode cX11_odds 126 = .ok (.goto (-28), 3) := by decide +kernel
theorem dX11_odds_129 : decode cX11_odds 129 = .ok (.iconst 0, 1) := by decide +kernel
theorem dX11_odds_130 : decode cX11_odds 130 = .ok (.istore 7, 2) := by decide +kernel
theorem dX11_odds_132 : decode cX11_odds 132 = .ok (.iload 7, 2) := by decide +kernel
theorem dX11_odds_134 : decode cX11_odds 134 = .ok (.aload_n 0, 1) := by decide +kernel
theorem dX11_odds_135 : decode cX11_odds 135 = .ok (.getfield 24, 3) := by decide +kernel
theorem dX11_odds_138 : decode cX11_odds 138 = .ok (.bipush 73, 2) := by decide +kernel
theorem dX11_odds_140 : decode cX11_odds 140 = .ok (.iaload, 1) := by decide +kernel
theorem dX11_odds_141 : decode cX11_odds 141 = .ok (.if_icmp .gt 39, 3) := by decide +kernel
theorem dX11_odds_144 : decode cX11_odds 144 = .ok (.aload_n 0, 1) := by decide +kernel
theorem dX11_odds_145 : decode cX11_odds 145 = .ok (.getfield 71, 3) := by decide +kernel
theorem dX11_odds_148 : decode cX11_odds 148 = .ok (.sipush 1000, 3) := by decide +kernel
theorem dX11_odds_151 : decode cX11_odds 151 = .ok (.iload 5, 2) := by decide +kernel
theorem dX11_odds_153 : decode cX11_odds 153 = .ok (.imul, 1) := by decide +kernel
theorem dX11_odds_154 : decode cX11_odds 154 = .ok (.iload 7, 2) := by decide +kernel
theorem dX11_odds_156 : decode cX11_odds 156 = .ok (.iadd, 1) := by decide +kernel
theorem dX11_odds_157 : decode cX11_odds 157 = .ok (.laload, 1) := by decide +kernel
theorem dX11_odds_158 : decode cX11_odds 158 = .ok (.lconst 0, 1) := by decide +kernel
theorem dX11_odds_159 : decode cX11_odds 159 = .ok (.lcmp, 1) := by decide +kernel
theorem dX11_odds_160 : decode cX11_odds 160 = .ok (.ifCond .le 14, 3) := by decide +kernel
theorem dX11_odds_163 : decode cX11_odds 163 = .ok (.aload_n 0, 1) := by decide +kernel
theorem dX11_odds_164 : decode cX11_odds 164 = .ok (.iload_n 1, 1) := by decide +kernel
theorem dX11_odds_165 : decode cX11_odds 165 = .ok (.iload 4, 2) := by decide +kernel
theorem dX11_odds_167 : decode cX11_odds 167 = .ok (.iload 7, 2) := by decide +kernel
theorem dX11_odds_169 : decode cX11_odds 169 = .ok (.iload 5, 2) := by decide +kernel
theorem dX11_odds_171 : decode cX11_odds 171 = .ok (.invokevirtual 400, 3) := by decide +kernel
theorem dX11_odds_174 : decode cX11_odds 174 = .ok (.iinc 7 1, 3) := by decide +kernel
theorem dX11_odds_177 : decode cX11_odds 177 = .ok (.goto (-45), 3) := by decide +kernel
theorem dX11_odds_180 : decode cX11_odds 180 = .ok (.iconst 1, 1) := by decide +kernel
theorem dX11_odds_181 : decode cX11_odds 181 = .ok (.iload 5, 2) := by decide +kernel
theorem dX11_odds_183 : decode cX11_odds 183 = .ok (.isub, 1) := by decide +kernel
theorem dX11_odds_184 : decode cX11_odds 184 = .ok (.istore 5, 2) := by decide +kernel
theorem dX11_odds_186 : decode cX11_odds 186 = .ok (.iinc 6 1, 3) := by decide +kernel
theorem dX11_odds_189 : decode cX11_odds 189 = .ok (.goto (-100), 3) := by decide +kernel
theorem dX11_odds_192 : decode cX11_odds 192 = .ok (.aload_n 0, 1) := by decide +kernel
theorem dX11_odds_193 : decode cX11_odds 193 = .ok (.iload_n 3, 1) := by decide +kernel
theorem dX11_odds_194 : decode cX11_odds 194 = .ok (.iload 5, 2) := by decide +kernel
theorem dX11_odds_196 : decode cX11_odds 196 = .ok (.invokevirtual 403, 3) := by decide +kernel
theorem dX11_odds_199 : decode cX11_odds 199 = .ok (.lreturn, 1) := by decide +kernel
theorem dX11_left_0 : decode cX11_left 0 = .ok (.iload_n 1, 1) := by decide +kernel
theorem dX11_left_1 : decode cX11_left 1 = .ok (.iconst 0, 1) := by decide +kernel
theorem dX11_left_2 : decode cX11_left 2 = .ok (.iconst 1, 1) := by decide +kernel
theorem dX11_left_3 : decode cX11_left 3 = .ok (.invokestatic 90, 3) := by decide +kernel
theorem dX11_left_6 : decode cX11_left 6 = .ok (.ifCond .ne 5, 3) := by decide +kernel
theorem dX11_left_9 : decode cX11_left 9 = .ok (.iconst (-1), 1) := by decide +kernel
theorem dX11_left_10 : decode cX11_left 10 = .ok (.ireturn, 1) := by decide +kernel
theorem dX11_left_11 : decode cX11_left 11 = .ok (.aload_n 0, 1) := by decide +kernel
theorem dX11_left_12 : decode cX11_left 12 = .ok (.invokevirtual 370, 3) := by decide +kernel
theorem dX11_left_15 : decode cX11_left 15 = .ok (.istore_n 2, 1) := by decide +kernel
theorem dX11_left_16 : decode cX11_left 16 = .ok (.iconst 0, 1) := by decide +kernel
theorem dX11_left_17 : decode cX11_left 17 = .ok (.istore_n 3, 1) := by decide +kernel
theorem dX11_left_18 : decode cX11_left 18 = .ok (.iconst 1, 1) := by decide +kernel
theorem dX11_left_19 : decode cX11_left 19 = .ok (.istore 4, 2) := by decide +kernel
theorem dX11_left_21 : decode cX11_left 21 = .ok (.iload 4, 2) := by decide +kernel
theorem dX11_left_23 : decode cX11_left 23 = .ok (.ifCond .eq 80, 3) := by decide +kernel
theorem dX11_left_26 : decode cX11_left 26 = .ok (.iconst 0, 1) := by decide +kernel
theorem dX11_left_27 : decode cX11_left 27 = .ok (.istore 4, 2) := by decide +kernel
theorem dX11_left_29 : decode cX11_left 29 = .ok (.iinc 3 1, 3) := by decide +kernel
theorem dX11_left_32 : decode cX11_left 32 = .ok (.iconst 0, 1) := by decide +kernel
theorem dX11_left_33 : decode cX11_left 33 = .ok (.istore 5, 2) := by decide +kernel
theorem dX11_left_35 : decode cX11_left 35 = .ok (.iload 5, 2) := by decide +kernel
theorem dX11_left_37 : decode cX11_left 37 = .ok (.aload_n 0, 1) := by decide +kernel
theorem dX11_left_38 : decode cX11_left 38 = .ok (.getfield 24, 3) := by decide +kernel
theorem dX11_left_41 : decode cX11_left 41 = .ok (.bipush 75, 2) := by decide +kernel
theorem dX11_left_43 : decode cX11_left 43 = .ok (.iaload, 1) := by decide +kernel
theorem dX11_left_44 : decode cX11_left 44 = .ok (.if_icmp .ge 56, 3) := by decide +kernel
theorem dX11_left_47 : decode cX11_left 47 = .ok (.iload_n 2, 1) := by decide +kernel
theorem dX11_left_48 : decode cX11_left 48 = .ok (.iload 5, 2) := by decide +kernel
theorem dX11_left_50 : decode cX11_left 50 = .ok (.invokestatic 316, 3) := by decide +kernel
theorem dX11_left_53 : decode cX11_left 53 = .ok (.ifCond .eq 41, 3) := by decide +kernel
theorem dX11_left_56 : decode cX11_left 56 = .ok (.aload_n 0, 1) := by decide +kernel
theorem dX11_left_57 : decode cX11_left 57 = .ok (.iload 5, 2) := by decide +kernel
theorem dX11_left_59 : decode cX11_left 59 = .ok (.aload_n 0, 1) := by decide +kernel
theorem dX11_left_60 : decode cX11_left 60 = .ok (.getfield 24, 3) := by decide +kernel
theorem dX11_left_63 : decode cX11_left 63 = .ok (.bipush 23, 2) := by decide +kernel
theorem dX11_left_65 : decode cX11_left 65 = .ok (.iload 5, 2) := by decide +kernel
theorem dX11_left_67 : decode cX11_left 67 = .ok (.iadd, 1) := by decide +kernel
theorem dX11_left_68 : decode cX11_left 68 = .ok (.iaload, 1) := by decide +kernel
theorem dX11_left_69 : decode cX11_left 69 = .ok (.iload_n 2, 1) := by decide +kernel
theorem dX11_left_70 : decode cX11_left 70 = .ok (.invokestatic 319, 3) := by decide +kernel
theorem dX11_left_73 : decode cX11_left 73 = .ok (.invokevirtual 112, 3) := by decide +kernel
theorem dX11_left_76 : decode cX11_left 76 = .ok (.ifCond .ne 6, 3) := by decide +kernel
theorem dX11_left_79 : decode cX11_left 79 = .ok (.goto 15, 3) := by decide +kernel
theorem dX11_left_82 : decode cX11_left 82 = .ok (.iload_n 2, 1) := by decide +kernel
theorem dX11_left_83 : decode cX11_left 83 = .ok (.iconst 1, 1) := by decide +kernel
theorem dX11_left_84 : decode cX11_left 84 = .ok (.iload 5, 2) := by decide +kernel
theorem dX11_left_86 : decode cX11_left 86 = .ok (.ishl, 1) := by decide +kernel
theorem dX11_left_87 : decode cX11_left 87 = .ok (.iconst (-1), 1) := by decide +kernel
theorem dX11_left_88 : decode cX11_left 88 = .ok (.ixor, 1) := by decide +kernel
theorem dX11_left_89 : decode cX11_left 89 = .ok (.iand, 1) := by decide +kernel
theorem dX11_left_90 : decode cX11_left 90 = .ok (.istore_n 2, 1) := by decide +kernel
theorem dX11_left_91 : decode cX11_left 91 = .ok (.iconst 1, 1) := by decide +kernel
theorem dX11_left_92 : decode cX11_left 92 = .ok (.istore 4, 2) := by decide +kernel
theorem dX11_left_94 : decode cX11_left 94 = .ok (.iinc 5 1, 3) := by decide +kernel
theorem dX11_left_97 : decode cX11_left 97 = .ok (.goto (-62), 3) := by decide +kernel
theorem dX11_left_100 : decode cX11_left 100 = .ok (.goto (-79), 3) := by decide +kernel
theorem dX11_left_103 : decode cX11_left 103 = .ok (.iload_n 1, 1) := by decide +kernel
theorem dX11_left_104 : decode cX11_left 104 = .ok (.ifCond .ne 7, 3) := by decide +kernel
theorem dX11_left_107 : decode cX11_left 107 = .ok (.iload_n 2, 1) := by decide +kernel
theorem dX11_left_108 : decode cX11_left 108 = .ok (.goto 4, 3) := by decide +kernel
theorem dX11_left_111 : decode cX11_left 111 = .ok (.iload_n 3, 1) := by decide +kernel
theorem dX11_left_112 : decode cX11_left 112 = .ok (.ireturn, 1) := by decide +kernel
theorem dX11_least_0 : decode cX11_least 0 = .ok (.aload_n 0, 1) := by decide +kernel
theorem dX11_least_1 : decode cX11_least 1 = .ok (.iload_n 1, 1) := by decide +kernel
theorem dX11_least_2 : decode cX11_least 2 = .ok (.invokevirtual 100, 3) := by decide +kernel
theorem dX11_least_5 : decode cX11_least 5 = .ok (.ifCond .eq 11, 3) := by decide +kernel
theorem dX11_least_8 : decode cX11_least 8 = .ok (.aload_n 0, 1) := by decide +kernel
theorem dX11_least_9 : decode cX11_least 9 = .ok (.iload_n 1, 1) := by decide +kernel
theorem dX11_least_10 : decode cX11_least 10 = .ok (.invokevirtual 118, 3) := by decide +kernel
theorem dX11_least_13 : decode cX11_least 13 = .ok (.ifCond .ne 5, 3) := by decide +kernel
theorem dX11_least_16 : decode cX11_least 16 = .ok (.iconst (-1), 1) := by decide +kernel
theorem dX11_least_17 : decode cX11_least 17 = .ok (.ireturn, 1) := by decide +kernel
theorem dX11_least_18 : decode cX11_least 18 = .ok (.sipush 999, 3) := by decide +kernel
theorem dX11_least_21 : decode cX11_least 21 = .ok (.istore_n 2, 1) := by decide +kernel
theorem dX11_least_22 : decode cX11_least 22 = .ok (.iload_n 2, 1) := by decide +kernel
theorem dX11_least_23 : decode cX11_least 23 = .ok (.ifCond .le 24, 3) := by decide +kernel
theorem dX11_least_26 : decode cX11_least 26 = .ok (.aload_n 0, 1) := by decide +kernel
theorem dX11_least_27 : decode cX11_least 27 = .ok (.iload_n 1, 1) := by decide +kernel
theorem dX11_least_28 : decode cX11_least 28 = .ok (.iload_n 2, 1) := by decide +kernel
theorem dX11_least_29 : decode cX11_least 29 = .ok (.aload_n 0, 1) := by decide +kernel
theorem dX11_least_30 : decode cX11_least 30 = .ok (.invokevirtual 108, 3) := by decide +kernel
theorem dX11_least_33 : decode cX11_least 33 = .ok (.invokevirtual 112, 3) := by decide +kernel
theorem dX11_least_36 : decode cX11_least 36 = .ok (.ifCond .ne 5, 3) := by decide +kernel
theorem dX11_least_39 : decode cX11_least 39 = .ok (.iload_n 2, 1) := by decide +kernel
theorem dX11_least_40 : decode cX11_least 40 = .ok (.ireturn, 1) := by decide +kernel
theorem dX11_least_41 : decode cX11_least 41 = .ok (.iinc 2 (-1), 3) := by decide +kernel
theorem dX11_least_44 : decode cX11_least 44 = .ok (.goto (-22), 3) := by decide +kernel
theorem dX11_least_47 : decode cX11_least 47 = .ok (.iconst (-1), 1) := by decide +kernel
theorem dX11_least_48 : decode cX11_least 48 = .ok (.ireturn, 1) := by decide +kernel
theorem dX11_crew_0 : decode cX11_crew 0 = .ok (.aload_n 0, 1) := by decide +kernel
theorem dX11_crew_1 : decode cX11_crew 1 = .ok (.iload_n 1, 1) := by decide +kernel
theorem dX11_crew_2 : decode cX11_crew 2 = .ok (.invokevirtual 129, 3) := by decide +kernel
theorem dX11_crew_5 : decode cX11_crew 5 = .ok (.ifCond .eq 22, 3) := by decide +kernel
theorem dX11_crew_8 : decode cX11_crew 8 = .ok (.iload_n 2, 1) := by decide +kernel
theorem dX11_crew_9 : decode cX11_crew 9 = .ok (.iconst 1, 1) := by decide +kernel
theorem dX11_crew_10 : decode cX11_crew 10 = .ok (.bipush 99, 2) := by decide +kernel
theorem dX11_crew_12 : decode cX11_crew 12 = .ok (.invokestatic 90, 3) := by decide +kernel
theorem dX11_crew_15 : decode cX11_crew 15 = .ok (.ifCond .eq 12, 3) := by decide +kernel
theorem dX11_crew_18 : decode cX11_crew 18 = .ok (.iload_n 3, 1) := by decide +kernel
theorem dX11_crew_19 : decode cX11_crew 19 = .ok (.iconst 0, 1) := by decide +kernel
theorem dX11_crew_20 : decode cX11_crew 20 = .ok (.iconst 1, 1) := by decide +kernel
theorem dX11_crew_21 : decode cX11_crew 21 = .ok (.invokestatic 90, 3) := by decide +kernel
theorem dX11_crew_24 : decode cX11_crew 24 = .ok (.ifCond .ne 7, 3) := by decide +kernel
theorem dX11_crew_27 : decode cX11_crew 27 = .ok (.ldc2_w 392, 3) := by decide +kernel
theorem dX11_crew_30 : decode cX11_crew 30 = .ok (.lreturn, 1) := by decide +kernel
theorem dX11_crew_31 : decode cX11_crew 31 = .ok (.iconst (-1), 1) := by decide +kernel
theorem dX11_crew_32 : decode cX11_crew 32 = .ok (.istore 4, 2) := by decide +kernel
theorem dX11_crew_34 : decode cX11_crew 34 = .ok (.lconst 0, 1) := by decide +kernel
theorem dX11_crew_35 : decode cX11_crew 35 = .ok (.lstore 5, 2) := by decide +kernel
theorem dX11_crew_37 : decode cX11_crew 37 = .ok (.iconst 1, 1) := by decide +kernel
theorem dX11_crew_38 : decode cX11_crew 38 = .ok (.istore 7, 2) := by decide +kernel
theorem dX11_crew_40 : decode cX11_crew 40 = .ok (.iload 7, 2) := by decide +kernel
theorem dX11_crew_42 : decode cX11_crew 42 = .ok (.iconst 1, 1) := by decide +kernel
theorem dX11_crew_43 : decode cX11_crew 43 = .ok (.aload_n 0, 1) := by decide +kernel
theorem dX11_crew_44 : decode cX11_crew 44 = .ok (.getfield 24, 3) := by decide +kernel
theorem dX11_crew_47 : decode cX11_crew 47 = .ok (.bipush 75, 2) := by decide +kernel
theorem dX11_crew_49 : decode cX11_crew 49 = .ok (.iaload, 1) := by decide +kernel
theorem dX11_crew_50 : decode cX11_crew 50 = .ok (.ishl, 1) := by decide +kernel
theorem dX11_crew_51 : decode cX11_crew 51 = .ok (.if_icmp .ge 71, 3) := by decide +kernel
theorem dX11_crew_54 : decode cX11_crew 54 = .ok (.iload 7, 2) := by decide +kernel
theorem dX11_crew_56 : decode cX11_crew 56 = .ok (.aload_n 0, 1) := by decide +kernel
theorem dX11_crew_57 : decode cX11_crew 57 = .ok (.invokevirtual 370, 3) := by decide +kernel
theorem dX11_crew_60 : decode cX11_crew 60 = .ok (.iconst (-1), 1) := by decide +kernel
theorem dX11_crew_61 : decode cX11_crew 61 = .ok (.ixor, 1) := by decide +kernel
theorem dX11_crew_62 : decode cX11_crew 62 = .ok (.iand, 1) := by decide +kernel
theorem dX11_crew_63 : decode cX11_crew 63 = .ok (.ifCond .ne 53, 3) := by decide +kernel
theorem dX11_crew_66 : decode cX11_crew 66 = .ok (.aload_n 0, 1) := by decide +kernel
theorem dX11_crew_67 : decode cX11_crew 67 = .ok (.iload_n 1, 1) := by decide +kernel
theorem dX11_crew_68 : decode cX11_crew 68 = .ok (.iload 7, 2) := by decide +kernel
theorem dX11_crew_70 : decode cX11_crew 70 = .ok (.invokestatic 319, 3) := by decide +kernel
theorem dX11_crew_73 : decode cX11_crew 73 = .ok (.invokevirtual 132, 3) := by decide +kernel
theorem dX11_crew_76 : decode cX11_crew 76 = .ok (.iload_n 2, 1) := by decide +kernel
theorem dX11_crew_77 : decode cX11_crew 77 = .ok (.if_icmp .ge 6, 3) := by decide +kernel
theorem dX11_crew_80 : decode cX11_crew 80 = .ok (.goto 36, 3) := by decide +kernel
theorem dX11_crew_83 : decode cX11_crew 83 = .ok (.aload_n 0, 1) := by decide +kernel
theorem dX11_crew_84 : decode cX11_crew 84 = .ok (.iload 7, 2) := by decide +kernel
theorem dX11_crew_86 : decode cX11_crew 86 = .ok (.invokevirtual 373, 3) := by decide +kernel
theorem dX11_crew_89 : decode cX11_crew 89 = .ok (.lstore 8, 2) := by decide +kernel
theorem dX11_crew_91 : decode cX11_crew 91 = .ok (.iload 4, 2) := by decide +kernel
theorem dX11_crew_93 : decode cX11_crew 93 = .ok (.iconst (-1), 1) := by decide +kernel
theorem dX11_crew_94 : decode cX11_crew 94 = .ok (.if_icmp .eq 14, 3) := by decide +kernel
theorem dX11_crew_97 : decode cX11_crew 97 = .ok (.lload 8, 2) := by decide +kernel
theorem dX11_crew_99 : decode cX11_crew 99 = .ok (.lload 5, 2) := by decide +kernel
theorem dX11_crew_101 : decode cX11_crew 101 = .ok (.lcmp, 1) := by decide +kernel
theorem dX11_crew_102 : decode cX11_crew 102 = .ok (.ifCond .lt 6, 3) := by decide +kernel
theorem dX11_crew_105 : decode cX11_crew 105 = .ok (.goto 11, 3) := by decide +kernel
theorem dX11_crew_108 : decode cX11_crew 108 = .ok (.iload 7, 2) := by decide +kernel
theorem dX11_crew_110 : decode cX11_crew 110 = .ok (.istore 4, 2) := by decide +kernel
theorem dX11_crew_112 : decode cX11_crew 112 = .ok (.lload 8, 2) := by decide +kernel
theorem dX11_crew_114 : decode cX11_crew 114 = .ok (.lstore 5, 2) := by decide +kernel
theorem dX11_crew_116 : decode cX11_crew 116 = .ok (.iinc 7 1, 3) := by decide +kernel
theorem dX11_crew_119 : decode cX11_crew 119 = .ok (.goto (-79), 3) := by decide +kernel
theorem dX11_crew_122 : decode cX11_crew 122 = .ok (.iload 4, 2) := by decide +kernel
theorem dX11_crew_124 : decode cX11_crew 124 = .ok (.iconst (-1), 1) := by decide +kernel
theorem dX11_crew_125 : decode cX11_crew 125 = .ok (.if_icmp .eq 7, 3) := by decide +kernel
theorem dX11_crew_128 : decode cX11_crew 128 = .ok (.iload_n 3, 1) := by decide +kernel
theorem dX11_crew_129 : decode cX11_crew 129 = .ok (.ifCond .ne 9, 3) := by decide +kernel
theorem dX11_crew_132 : decode cX11_crew 132 = .ok (.iload 4, 2) := by decide +kernel
theorem dX11_crew_134 : decode cX11_crew 134 = .ok (.i2l, 1) := by decide +kernel
theorem dX11_crew_135 : decode cX11_crew 135 = .ok (.goto 5, 3) := by decide +kernel
theorem dX11_crew_138 : decode cX11_crew 138 = .ok (.lload 5, 2) := by decide +kernel
theorem dX11_crew_140 : decode cX11_crew 140 = .ok (.lreturn, 1) := by decide +kernel
theorem dX11_word_0 : decode cX11_word 0 = .ok (.iload_n 2, 1) := by decide +kernel
theorem dX11_word_1 : decode cX11_word 1 = .ok (.iconst 0, 1) := by decide +kernel
theorem dX11_word_2 : decode cX11_word 2 = .ok (.ldc_w 343, 3) := by decide +kernel
theorem dX11_word_5 : decode cX11_word 5 = .ok (.invokestatic 90, 3) := by decide +kernel
theorem dX11_word_8 : decode cX11_word 8 = .ok (.ifCond .ne 9, 3) := by decide +kernel
theorem dX11_word_11 : decode cX11_word 11 = .ok (.aload_n 0, 1) := by decide +kernel
theorem dX11_word_12 : decode cX11_word 12 = .ok (.iconst (-1), 1) := by decide +kernel
theorem dX11_word_13 : decode cX11_word 13 = .ok (.invokevirtual 94, 3) := by decide +kernel
theorem dX11_word_16 : decode cX11_word 16 = .ok (.ireturn, 1) := by decide +kernel
theorem dX11_word_17 : decode cX11_word 17 = .ok (.aload_n 0, 1) := by decide +kernel
theorem dX11_word_18 : decode cX11_word 18 = .ok (.iload_n 1, 1) := by decide +kernel
theorem dX11_word_19 : decode cX11_word 19 = .ok (.invokevirtual 100, 3) := by decide +kernel
theorem dX11_word_22 : decode cX11_word 22 = .ok (.ifCond .ne 10, 3) := by decide +kernel
theorem dX11_word_25 : decode cX11_word 25 = .ok (.aload_n 0, 1) := by decide +kernel
theorem dX11_word_26 : decode cX11_word 26 = .ok (.bipush (-2), 2) := by decide +kernel
theorem dX11_word_28 : decode cX11_word 28 = .ok (.invokevirtual 94, 3) := by decide +kernel
theorem dX11_word_31 : decode cX11_word 31 = .ok (.ireturn, 1) := by decide +kernel
theorem dX11_word_32 : decode cX11_word 32 = .ok (.aload_n 0, 1) := by decide +kernel
theorem dX11_word_33 : decode cX11_word 33 = .ok (.getfield 24, 3) := by decide +kernel
theorem dX11_word_36 : decode cX11_word 36 = .ok (.bipush 77, 2) := by decide +kernel
theorem dX11_word_38 : decode cX11_word 38 = .ok (.iaload, 1) := by decide +kernel
theorem dX11_word_39 : decode cX11_word 39 = .ok (.istore_n 3, 1) := by decide +kernel
theorem dX11_word_40 : decode cX11_word 40 = .ok (.iload_n 3, 1) := by decide +kernel
theorem dX11_word_41 : decode cX11_word 41 = .ok (.bipush 8, 2) := by decide +kernel
theorem dX11_word_43 : decode cX11_word 43 = .ok (.if_icmp .ne 10, 3) := by decide +kernel
theorem dX11_word_46 : decode cX11_word 46 = .ok (.aload_n 0, 1) := by decide +kernel
theorem dX11_word_47 : decode cX11_word 47 = .ok (.bipush (-5), 2) := by decide +kernel
theorem dX11_word_49 : decode cX11_word 49 = .ok (.invokevirtual 94, 3) := by decide +kernel
theorem dX11_word_52 : decode cX11_word 52 = .ok (.ireturn, 1) := by decide +kernel
theorem dX11_word_53 : decode cX11_word 53 = .ok (.aload_n 0, 1) := by decide +kernel
theorem dX11_word_54 : decode cX11_word 54 = .ok (.getfield 24, 3) := by decide +kernel
theorem dX11_word_57 : decode cX11_word 57 = .ok (.bipush 57, 2) := by decide +kernel
theorem dX11_word_59 : decode cX11_word 59 = .ok (.iconst 2, 1) := by decide +kernel
theorem dX11_word_60 : decode cX11_word 60 = .ok (.iload_n 3, 1) := by decide +kernel
theorem dX11_word_61 : decode cX11_word 61 = .ok (.imul, 1) := by decide +kernel
theorem dX11_word_62 : decode cX11_word 62 = .ok (.iadd, 1) := by decide +kernel
theorem dX11_word_63 : decode cX11_word 63 = .ok (.iload_n 1, 1) := by decide +kernel
theorem dX11_word_64 : decode cX11_word 64 = .ok (.iastore, 1) := by decide +kernel
theorem dX11_word_65 : decode cX11_word 65 = .ok (.aload_n 0, 1) := by decide +kernel
theorem dX11_word_66 : decode cX11_word 66 = .ok (.getfield 24, 3) := by decide +kernel
theorem dX11_word_69 : decode cX11_word 69 = .ok (.bipush 57, 2) := by decide +kernel
theorem dX11_word_71 : decode cX11_word 71 = .ok (.iconst 2, 1) := by decide +kernel
theorem dX11_word_72 : decode cX11_word 72 = .ok (.iload_n 3, 1) := by decide +kernel
theorem dX11_word_73 : decode cX11_word 73 = .ok (.imul, 1) := by decide +kernel
theorem dX11_word_74 : decode cX11_word 74 = .ok (.iadd, 1) := by decide +kernel
theorem dX11_word_75 : decode cX11_word 75 = .ok (.iconst 1, 1) := by decide +kernel
theorem dX11_word_76 : decode cX11_word 76 = .ok (.iadd, 1) := by decide +kernel
theorem dX11_word_77 : decode cX11_word 77 = .ok (.iload_n 2, 1) := by decide +kernel
theorem dX11_word_78 : decode cX11_word 78 = .ok (.iastore, 1) := by decide +kernel
theorem dX11_word_79 : decode cX11_word 79 = .ok (.aload_n 0, 1) := by decide +kernel
theorem dX11_word_80 : decode cX11_word 80 = .ok (.getfield 24, 3) := by decide +kernel
theorem dX11_word_83 : decode cX11_word 83 = .ok (.bipush 77, 2) := by decide +kernel
theorem dX11_word_85 : decode cX11_word 85 = .ok (.dup2, 1) := by decide +kernel
theorem dX11_word_86 : decode cX11_word 86 = .ok (.iaload, 1) := by decide +kernel
theorem dX11_word_87 : decode cX11_word 87 = .ok (.iconst 1, 1) := by decide +kernel
theorem dX11_word_88 : decode cX11_word 88 = .ok (.iadd, 1) := by decide +kernel
theorem dX11_word_89 : decode cX11_word 89 = .ok (.iastore, 1) := by decide +kernel
theorem dX11_word_90 : decode cX11_word 90 = .ok (.aload_n 0, 1) := by decide +kernel
theorem dX11_word_91 : decode cX11_word 91 = .ok (.iload_n 3, 1) := by decide +kernel
theorem dX11_word_92 : decode cX11_word 92 = .ok (.iconst 1, 1) := by decide +kernel
theorem dX11_word_93 : decode cX11_word 93 = .ok (.iadd, 1) := by decide +kernel
theorem dX11_word_94 : decode cX11_word 94 = .ok (.invokevirtual 14, 3) := by decide +kernel
theorem dX11_word_97 : decode cX11_word 97 = .ok (.ireturn, 1) := by decide +kernel
theorem dX11_forget_0 : decode cX11_forget 0 = .ok (.aload_n 0, 1) := by decide +kernel
theorem dX11_forget_1 : decode cX11_forget 1 = .ok (.getfield 24, 3) := by decide +kernel
theorem dX11_forget_4 : decode cX11_forget 4 = .ok (.bipush 77, 2) := by decide +kernel
theorem dX11_forget_6 : decode cX11_forget 6 = .ok (.iaload, 1) := by decide +kernel
theorem dX11_forget_7 : decode cX11_forget 7 = .ok (.istore_n 1, 1) := by decide +kernel
theorem dX11_forget_8 : decode cX11_forget 8 = .ok (.aload_n 0, 1) := by decide +kernel
theorem dX11_forget_9 : decode cX11_forget 9 = .ok (.getfield 24, 3) := by decide +kernel
theorem dX11_forget_12 : decode cX11_forget 12 = .ok (.bipush 77, 2) := by decide +kernel
theorem dX11_forget_14 : decode cX11_forget 14 = .ok (.iconst 0, 1) := by decide +kernel
theorem dX11_forget_15 : decode cX11_forget 15 = .ok (.iastore, 1) := by decide +kernel
theorem dX11_forget_16 : decode cX11_forget 16 = .ok (.iload_n 1, 1) := by decide +kernel
theorem dX11_forget_17 : decode cX11_forget 17 = .ok (.ireturn, 1) := by decide +kernel
theorem dX11_canBe_0 : decode cX11_canBe 0 = .ok (.iconst 1, 1) := by decide +kernel
theorem dX11_canBe_1 : decode cX11_canBe 1 = .ok (.istore_n 2, 1) := by decide +kernel
theorem dX11_canBe_2 : decode cX11_canBe 2 = .ok (.iconst 0, 1) := by decide +kernel
theorem dX11_canBe_3 : decode cX11_canBe 3 = .ok (.istore_n 3, 1) := by decide +kernel
theorem dX11_canBe_4 : decode cX11_canBe 4 = .ok (.iload_n 3, 1) := by decide +kernel
theorem dX11_canBe_5 : decode cX11_canBe 5 = .ok (.aload_n 0, 1) := by decide +kernel
theorem dX11_canBe_6 : decode cX11_canBe 6 = .ok (.getfield 24, 3) := by decide +kernel
theorem dX11_canBe_9 : decode cX11_canBe 9 = .ok (.bipush 77, 2) := by decide +kernel
theorem dX11_canBe_11 : decode cX11_canBe 11 = .ok (.iaload, 1) := by decide +kernel
theorem dX11_canBe_12 : decode cX11_canBe 12 = .ok (.if_icmp .ge 51, 3) := by decide +kernel
theorem dX11_canBe_15 : decode cX11_canBe 15 = .ok (.iload_n 2, 1) := by decide +kernel
theorem dX11_canBe_16 : decode cX11_canBe 16 = .ok (.ifCond .eq 47, 3) := by decide +kernel
theorem dX11_canBe_19 : decode cX11_canBe 19 = .ok (.aload_n 0, 1) := by decide +kernel
theorem dX11_canBe_20 : decode cX11_canBe 20 = .ok (.aload_n 0, 1) := by decide +kernel
theorem dX11_canBe_21 : decode cX11_canBe 21 = .ok (.getfield 24, 3) := by decide +kernel
theorem dX11_canBe_24 : decode cX11_canBe 24 = .ok (.bipush 57, 2) := by decide +kernel
theorem dX11_canBe_26 : decode cX11_canBe 26 = .ok (.iconst 2, 1) := by decide +kernel
theorem dX11_canBe_27 : decode cX11_canBe 27 = .ok (.iload_n 3, 1) := by decide +kernel
theorem dX11_canBe_28 : decode cX11_canBe 28 = .ok (.imul, 1) := by decide +kernel
theorem dX11_canBe_29 : decode cX11_canBe 29 = .ok (.iadd, 1) := by decide +kernel
theorem dX11_canBe_30 : decode cX11_canBe 30 = .ok (.iaload, 1) := by decide +kernel
theorem dX11_canBe_31 : decode cX11_canBe 31 = .ok (.iload_n 1, 1) := by decide +kernel
theorem dX11_canBe_32 : decode cX11_canBe 32 = .ok (.invokevirtual 365, 3) := by decide +kernel
theorem dX11_canBe_35 : decode cX11_canBe 35 = .ok (.aload_n 0, 1) := by decide +kernel
theorem dX11_canBe_36 : decode cX11_canBe 36 = .ok (.getfield 24, 3) := by decide +kernel
theorem dX11_canBe_39 : decode cX11_canBe 39 = .ok (.bipush 57, 2) := by decide +kernel
theorem dX11_canBe_41 : decode cX11_canBe 41 = .ok (.iconst 2, 1) := by decide +kernel
theorem dX11_canBe_42 : decode cX11_canBe 42 = .ok (.iload_n 3, 1) := by decide +kernel
theorem dX11_canBe_43 : decode cX11_canBe 43 = .ok (.imul, 1) := by decide +kernel
theorem dX11_canBe_44 : decode cX11_canBe 44 = .ok (.iadd, 1) := by decide +kernel
theorem dX11_canBe_45 : decode cX11_canBe 45 = .ok (.iconst 1, 1) := by decide +kernel
theorem dX11_canBe_46 : decode cX11_canBe 46 = .ok (.iadd, 1) := by decide +kernel
theorem dX11_canBe_47 : decode cX11_canBe 47 = .ok (.iaload, 1) := by decide +kernel
theorem dX11_canBe_48 : decode cX11_canBe 48 = .ok (.if_icmp .ne 7, 3) := by decide +kernel
theorem dX11_canBe_51 : decode cX11_canBe 51 = .ok (.iconst 1, 1) := by decide +kernel
theorem dX11_canBe_52 : decode cX11_canBe 52 = .ok (.goto 4, 3) := by decide +kernel
theorem dX11_canBe_55 : decode cX11_canBe 55 = .ok (.iconst 0, 1) := by decide +kernel
theorem dX11_canBe_56 : decode cX11_canBe 56 = .ok (.istore_n 2, 1) := by decide +kernel
theorem dX11_canBe_57 : decode cX11_canBe 57 = .ok (.iinc 3 1, 3) := by decide +kernel
theorem dX11_canBe_60 : decode cX11_canBe 60 = .ok (.goto (-56), 3) := by decide +kernel
theorem dX11_canBe_63 : decode cX11_canBe 63 = .ok (.iload_n 2, 1) := by decide +kernel
theorem dX11_canBe_64 : decode cX11_canBe 64 = .ok (.ireturn, 1) := by decide +kernel
theorem dX11_barrels_0 : decode cX11_barrels 0 = .ok (.iload_n 1, 1) := by decide +kernel
theorem dX11_barrels_1 : decode cX11_barrels 1 = .ok (.iconst 0, 1) := by decide +kernel
theorem dX11_barrels_2 : decode cX11_barrels 2 = .ok (.iconst 2, 1) := by decide +kernel
theorem dX11_barrels_3 : decode cX11_barrels 3 = .ok (.invokestatic 90, 3) := by decide +kernel
theorem dX11_barrels_6 : decode cX11_barrels 6 = .ok (.ifCond .ne 5, 3) := by decide +kernel
theorem dX11_barrels_9 : decode cX11_barrels 9 = .ok (.iconst (-1), 1) := by decide +kernel
theorem dX11_barrels_10 : decode cX11_barrels 10 = .ok (.ireturn, 1) := by decide +kernel
theorem dX11_barrels_11 : decode cX11_barrels 11 = .ok (.iconst 0, 1) := by decide +kernel
theorem dX11_barrels_12 : decode cX11_barrels 12 = .ok (.istore_n 2, 1) := by decide +kernel
theorem dX11_barrels_13 : decode cX11_barrels 13 = .ok (.iconst (-1), 1) := by decide +kernel
theorem dX11_barrels_14 : decode cX11_barrels 14 = .ok (.istore_n 3, 1) := by decide +kernel
theorem dX11_barrels_15 : decode cX11_barrels 15 = .ok (.iconst (-1), 1) := by decide +kernel
theorem dX11_barrels_16 : decode cX11_barrels 16 = .ok (.istore 4, 2) := by decide +kernel
theorem dX11_barrels_18 : decode cX11_barrels 18 = .ok (.iconst 0, 1) := by decide +kernel
theorem dX11_barrels_19 : decode cX11_barrels 19 = .ok (.istore 5, 2) := by decide +kernel
theorem dX11_barrels_21 : decode cX11_barrels 21 = .ok (.iload 5, 2) := by decide +kernel
theorem dX11_barrels_23 : decode cX11_barrels 23 = .ok (.aload_n 0, 1) := by decide +kernel
theorem dX11_barrels_24 : decode cX11_barrels 24 = .ok (.getfield 24, 3) := by decide +kernel
theorem dX11_barrels_27 : decode cX11_barrels 27 = .ok (.bipush 73, 2) := by decide +kernel
theorem dX11_barrels_29 : decode cX11_barrels 29 = .ok (.iaload, 1) := by decide +kernel
theorem dX11_barrels_30 : decode cX11_barrels 30 = .ok (.if_icmp .gt 40, 3) := by decide +kernel
theorem dX11_barrels_33 : decode cX11_barrels 33 = .ok (.aload_n 0, 1) := by decide +kernel
theorem dX11_barrels_34 : decode cX11_barrels 34 = .ok (.iload 5, 2) := by decide +kernel
theorem dX11_barrels_36 : decode cX11_barrels 36 = .ok (.invokevirtual 406, 3) := by decide +kernel
theorem dX11_barrels_39 : decode cX11_barrels 39 = .ok (.ifCond .ne 6, 3) := by decide +kernel
theorem dX11_barrels_42 : decode cX11_barrels 42 = .ok (.goto 22, 3) := by decide +kernel
theorem dX11_barrels_45 : decode cX11_barrels 45 = .ok (.iinc 2 1, 3) := by decide +kernel
theorem dX11_barrels_48 : decode cX11_barrels 48 = .ok (.iload_n 3, 1) := by decide +kernel
theorem dX11_barrels_49 : decode cX11_barrels 49 = .ok (.iconst (-1), 1) := by decide +kernel
theorem dX11_barrels_50 : decode cX11_barrels 50 = .ok (.if_icmp .ne 8, 3) := by decide +kernel
theorem dX11_barrels_53 : decode cX11_barrels 53 = .ok (.iload 5, 2) := by decide +kernel
theorem dX11_barrels_55 : decode cX11_barrels 55 = .ok (.goto 4, 3) := by decide +kernel
theorem dX11_barrels_58 : decode cX11_barrels 58 = .ok (.iload_n 3, 1) := by decide +kernel
theorem dX11_barrels_59 : decode cX11_barrels 59 = .ok (.istore_n 3, 1) := by decide +kernel
theorem dX11_barrels_60 : decode cX11_barrels 60 = .ok (.iload 5, 2) := by decide +kernel
theorem dX11_barrels_62 : decode cX11_barrels 62 = .ok (.istore 4, 2) := by decide +kernel
theorem dX11_barrels_64 : decode cX11_barrels 64 = .ok (.iinc 5 1, 3) := by decide +kernel
theorem dX11_barrels_67 : decode cX11_barrels 67 = .ok (.goto (-46), 3) := by decide +kernel
theorem dX11_barrels_70 : decode cX11_barrels 70 = .ok (.iload_n 1, 1) := by decide +kernel
theorem dX11_barrels_71 : decode cX11_barrels 71 = .ok (.ifCond .ne 7, 3) := by decide +kernel
theorem dX11_barrels_74 : decode cX11_barrels 74 = .ok (.iload_n 2, 1) := by decide +kernel
theorem dX11_barrels_75 : decode cX11_barrels 75 = .ok (.goto 14, 3) := by decide +kernel
theorem dX11_barrels_78 : decode cX11_barrels 78 = .ok (.iload_n 1, 1) := by decide +kernel
theorem dX11_barrels_79 : decode cX11_barrels 79 = .ok (.iconst 1, 1) := by decide +kernel
theorem dX11_barrels_80 : decode cX11_barrels 80 = .ok (.if_icmp .ne 7, 3) := by decide +kernel
theorem dX11_barrels_83 : decode cX11_barrels 83 = .ok (.iload_n 3, 1) := by decide +kernel
theorem dX11_barrels_84 : decode cX11_barrels 84 = .ok (.goto 5, 3) := by decide +kernel
theorem dX11_barrels_87 : decode cX11_barrels 87 = .ok (.iload 4, 2) := by decide +kernel
theorem dX11_barrels_89 : decode cX11_barrels 89 = .ok (.ireturn, 1) := by decide +kernel
theorem dX11_mostAlike_0 : decode cX11_mostAlike 0 = .ok (.iconst 0, 1) := by decide +kernel
theorem dX11_mostAlike_1 : decode cX11_mostAlike 1 = .ok (.istore_n 2, 1) := by decide +kernel
theorem dX11_mostAlike_2 : decode cX11_mostAlike 2 = .ok (.iconst 0, 1) := by decide +kernel
theorem dX11_mostAlike_3 : decode cX11_mostAlike 3 = .ok (.istore_n 3, 1) := by decide +kernel
theorem dX11_mostAlike_4 : decode cX11_mostAlike 4 = .ok (.iconst (-1), 1) := by decide +kernel
theorem dX11_mostAlike_5 : decode cX11_mostAlike 5 = .ok (.istore 4, 2) := by decide +kernel
theorem dX11_mostAlike_7 : decode cX11_mostAlike 7 = .ok (.iconst 0, 1) := by decide +kernel
theorem dX11_mostAlike_8 : decode cX11_mostAlike 8 = .ok (.istore 5, 2) := by decide +kernel
theorem dX11_mostAlike_10 : decode cX11_mostAlike 10 = .ok (.iload 5, 2) := by decide +kernel
theorem dX11_mostAlike_12 : decode cX11_mostAlike 12 = .ok (.aload_n 0, 1) := by decide +kernel
theorem dX11_mostAlike_13 : decode cX11_mostAlike 13 = .ok (.getfield 24, 3) := by decide +kernel
theorem dX11_mostAlike_16 : decode cX11_mostAlike 16 = .ok (.bipush 73, 2) := by decide +kernel
theorem dX11_mostAlike_18 : decode cX11_mostAlike 18 = .ok (.iaload, 1) := by decide +kernel
theorem dX11_mostAlike_19 : decode cX11_mostAlike 19 = .ok (.if_icmp .gt 56, 3) := by decide +kernel
theorem dX11_mostAlike_22 : decode cX11_mostAlike 22 = .ok (.aload_n 0, 1) := by decide +kernel
theorem dX11_mostAlike_23 : decode cX11_mostAlike 23 = .ok (.iload 5, 2) := by decide +kernel
theorem dX11_mostAlike_25 : decode cX11_mostAlike 25 = .ok (.invokevirtual 406, 3) := by decide +kernel
theorem dX11_mostAlike_28 : decode cX11_mostAlike 28 = .ok (.ifCond .ne 6, 3) := by decide +kernel
theorem dX11_mostAlike_31 : decode cX11_mostAlike 31 = .ok (.goto 38, 3) := by decide +kernel
theorem dX11_mostAlike_34 : decode cX11_mostAlike 34 = .ok (.aload_n 0, 1) := by decide +kernel
theorem dX11_mostAlike_35 : decode cX11_mostAlike 35 = .ok (.iload_n 1, 1) := by decide +kernel
theorem dX11_mostAlike_36 : decode cX11_mostAlike 36 = .ok (.iload 5, 2) := by decide +kernel
theorem dX11_mostAlike_38 : decode cX11_mostAlike 38 = .ok (.invokevirtual 365, 3) := by decide +kernel
theorem dX11_mostAlike_41 : decode cX11_mostAlike 41 = .ok (.iload 4, 2) := by decide +kernel
theorem dX11_mostAlike_43 : decode cX11_mostAlike 43 = .ok (.if_icmp .ne 9, 3) := by decide +kernel
theorem dX11_mostAlike_46 : decode cX11_mostAlike 46 = .ok (.iload_n 3, 1) := by decide +kernel
theorem dX11_mostAlike_47 : decode cX11_mostAlike 47 = .ok (.iconst 1, 1) := by decide +kernel
theorem dX11_mostAlike_48 : decode cX11_mostAlike 48 = .ok (.iadd, 1) := by decide +kernel
theorem dX11_mostAlike_49 : decode cX11_mostAlike 49 = .ok (.goto 4, 3) := by decide +kernel
theorem dX11_mostAlike_52 : decode cX11_mostAlike 52 = .ok (.iconst 1, 1) := by decide +kernel
theorem dX11_mostAlike_53 : decode cX11_mostAlike 53 = .ok (.istore_n 3, 1) := by decide +kernel
theorem dX11_mostAlike_54 : decode cX11_mostAlike 54 = .ok (.aload_n 0, 1) := by decide +kernel
theorem dX11_mostAlike_55 : decode cX11_mostAlike 55 = .ok (.iload_n 1, 1) := by decide +kernel
theorem dX11_mostAlike_56 : decode cX11_mostAlike 56 = .ok (.iload 5, 2) := by decide +kernel
theorem dX11_mostAlike_58 : decode cX11_mostAlike 58 = .ok (.invokevirtual 365, 3) := by decide +kernel
theorem dX11_mostAlike_61 : decode cX11_mostAlike 61 = .ok (.istore 4, 2) := by decide +kernel
theorem dX11_mostAlike_63 : decode cX11_mostAlike 63 = .ok (.iload_n 2, 1) := by decide +kernel
theorem dX11_mostAlike_64 : decode cX11_mostAlike 64 = .ok (.iload_n 3, 1) := by decide +kernel
theorem dX11_mostAlike_65 : decode cX11_mostAlike 65 = .ok (.invokestatic 136, 3) := by decide +kernel
theorem dX11_mostAlike_68 : decode cX11_mostAlike 68 = .ok (.istore_n 2, 1) := by decide +kernel
theorem dX11_mostAlike_69 : decode cX11_mostAlike 69 = .ok (.iinc 5 1, 3) := by decide +kernel
theorem dX11_mostAlike_72 : decode cX11_mostAlike 72 = .ok (.goto (-62), 3) := by decide +kernel
theorem dX11_mostAlike_75 : decode cX11_mostAlike 75 = .ok (.iload_n 2, 1) := by decide +kernel
theorem dX11_mostAlike_76 : decode cX11_mostAlike 76 = .ok (.ireturn, 1) := by decide +kernel
theorem dX11_ask_0 : decode cX11_ask 0 = .ok (.iload_n 1, 1) := by decide +kernel
theorem dX11_ask_1 : decode cX11_ask 1 = .ok (.iconst 0, 1) := by decide +kernel
theorem dX11_ask_2 : decode cX11_ask 2 = .ok (.iconst 1, 1) := by decide +kernel
theorem dX11_ask_3 : decode cX11_ask 3 = .ok (.invokestatic 90, 3) := by decide +kernel
theorem dX11_ask_6 : decode cX11_ask 6 = .ok (.ifCond .eq 11, 3) := by decide +kernel
theorem dX11_ask_9 : decode cX11_ask 9 = .ok (.aload_n 0, 1) := by decide +kernel
theorem dX11_ask_10 : decode cX11_ask 10 = .ok (.iconst 0, 1) := by decide +kernel
theorem dX11_ask_11 : decode cX11_ask 11 = .ok (.invokevirtual 409, 3) := by decide +kernel
theorem dX11_ask_14 : decode cX11_ask 14 = .ok (.ifCond .ne 5, 3) := by decide +kernel
theorem dX11_ask_17 : decode cX11_ask 17 = .ok (.iconst (-1), 1) := by decide +kernel
theorem dX11_ask_18 : decode cX11_ask 18 = .ok (.ireturn, 1) := by decide +kernel
theorem dX11_ask_19 : decode cX11_ask 19 = .ok (.iconst (-1), 1) := by decide +kernel
theorem dX11_ask_20 : decode cX11_ask 20 = .ok (.istore_n 2, 1) := by decide +kernel
theorem dX11_ask_21 : decode cX11_ask 21 = .ok (.ldc_w 412, 3) := by decide +kernel
theorem dX11_ask_24 : decode cX11_ask 24 = .ok (.istore_n 3, 1) := by decide +kernel
theorem dX11_ask_25 : decode cX11_ask 25 = .ok (.iconst 0, 1) := by decide +kernel
theorem dX11_ask_26 : decode cX11_ask 26 = .ok (.istore 4, 2) := by decide +kernel
theorem dX11_ask_28 : decode cX11_ask 28 = .ok (.iload 4, 2) := by decide +kernel
theorem dX11_ask_30 : decode cX11_ask 30 = .ok (.aload_n 0, 1) := by decide +kernel
theorem dX11_ask_31 : decode cX11_ask 31 = .ok (.getfield 24, 3) := by decide +kernel
theorem dX11_ask_34 : decode cX11_ask 34 = .ok (.bipush 75, 2) := by decide +kernel
theorem dX11_ask_36 : decode cX11_ask 36 = .ok (.iaload, 1) := by decide +kernel
theorem dX11_ask_37 : decode cX11_ask 37 = .ok (.if_icmp .ge 32, 3) := by decide +kernel
theorem dX11_ask_40 : decode cX11_ask 40 = .ok (.aload_n 0, 1) := by decide +kernel
theorem dX11_ask_41 : decode cX11_ask 41 = .ok (.iload 4, 2) := by decide +kernel
theorem dX11_ask_43 : decode cX11_ask 43 = .ok (.invokevirtual 413, 3) := by decide +kernel
theorem dX11_ask_46 : decode cX11_ask 46 = .ok (.istore 5, 2) := by decide +kernel
theorem dX11_ask_48 : decode cX11_ask 48 = .ok (.iload 5, 2) := by decide +kernel
theorem dX11_ask_50 : decode cX11_ask 50 = .ok (.iload_n 3, 1) := by decide +kernel
theorem dX11_ask_51 : decode cX11_ask 51 = .ok (.if_icmp .lt 6, 3) := by decide +kernel
theorem dX11_ask_54 : decode cX11_ask 54 = .ok (.goto 9, 3) := by decide +kernel
theorem dX11_ask_57 : decode cX11_ask 57 = .ok (.iload 5, 2) := by decide +kernel
theorem dX11_ask_59 : decode cX11_ask 59 = .ok (.istore_n 3, 1) := by decide +kernel
theorem dX11_ask_60 : decode cX11_ask 60 = .ok (.iload 4, 2) := by decide +kernel
theorem dX11_ask_62 : decode cX11_ask 62 = .ok (.istore_n 2, 1) := by decide +kernel
theorem dX11_ask_63 : decode cX11_ask 63 = .ok (.iinc 4 1, 3) := by decide +kernel
theorem dX11_ask_66 : decode cX11_ask 66 = .ok (.goto (-38), 3) := by decide +kernel
theorem dX11_ask_69 : decode cX11_ask 69 = .ok (.iload_n 2, 1) := by decide +kernel
theorem dX11_ask_70 : decode cX11_ask 70 = .ok (.iconst (-1), 1) := by decide +kernel
theorem dX11_ask_71 : decode cX11_ask 71 = .ok (.if_icmp .eq 7, 3) := by decide +kernel
theorem dX11_ask_74 : decode cX11_ask 74 = .ok (.iload_n 1, 1) := by decide +kernel
theorem dX11_ask_75 : decode cX11_ask 75 = .ok (.ifCond .ne 7, 3) := by decide +kernel
theorem dX11_ask_78 : decode cX11_ask 78 = .ok (.iload_n 2, 1) := by decide +kernel
theorem dX11_ask_79 : decode cX11_ask 79 = .ok (.goto 4, 3) := by decide +kernel
theorem dX11_ask_82 : decode cX11_ask 82 = .ok (.iload_n 3, 1) := by decide +kernel
theorem dX11_ask_83 : decode cX11_ask 83 = .ok (.ireturn, 1) := by decide +kernel
theorem dX11_stopped_0 : decode cX11_stopped 0 = .ok (.aload_n 0, 1) := by decide +kernel
theorem dX11_stopped_1 : decode cX11_stopped 1 = .ok (.getfield 78, 3) := by decide +kernel
theorem dX11_stopped_4 : decode cX11_stopped 4 = .ok (.ireturn, 1) := by decide +kernel
theorem dX11_orders_0 : decode cX11_orders 0 = .ok (.aload_n 0, 1) := by decide +kernel
theorem dX11_orders_1 : decode cX11_orders 1 = .ok (.iconst (-1), 1) := by decide +kernel
theorem dX11_orders_2 : decode cX11_orders 2 = .ok (.putfield 78, 3) := by decide +kernel
theorem dX11_orders_5 : decode cX11_orders 5 = .ok (.aload_n 0, 1) := by decide +kernel
theorem dX11_orders_6 : decode cX11_orders 6 = .ok (.iconst 1, 1) := by decide +kernel
theorem dX11_orders_7 : decode cX11_orders 7 = .ok (.invokevirtual 239, 3) := by decide +kernel
theorem dX11_orders_10 : decode cX11_orders 10 = .ok (.ifCond .ne 10, 3) := by decide +kernel
theorem dX11_orders_13 : decode cX11_orders 13 = .ok (.aload_n 0, 1) := by decide +kernel
theorem dX11_orders_14 : decode cX11_orders 14 = .ok (.bipush (-6), 2) := by decide +kernel
theorem dX11_orders_16 : decode cX11_orders 16 = .ok (.invokevirtual 94, 3) := by decide +kernel
theorem dX11_orders_19 : decode cX11_orders 19 = .ok (.ireturn, 1) := by decide +kernel
theorem dX11_orders_20 : decode cX11_orders 20 = .ok (.aload_n 0, 1) := by decide +kernel
theorem dX11_orders_21 : decode cX11_orders 21 = .ok (.iconst 0, 1) := by decide +kernel
theorem dX11_orders_22 : decode cX11_orders 22 = .ok (.invokevirtual 416, 3) := by decide +kernel
theorem dX11_orders_25 : decode cX11_orders 25 = .ok (.iconst 0, 1) := by decide +kernel
theorem dX11_orders_26 : decode cX11_orders 26 = .ok (.istore_n 1, 1) := by decide +kernel
theorem dX11_orders_27 : decode cX11_orders 27 = .ok (.iload_n 1, 1) := by decide +kernel
theorem dX11_orders_28 : decode cX11_orders 28 = .ok (.sipush 384, 3) := by decide +kernel
theorem dX11_orders_31 : decode cX11_orders 31 = .ok (.if_icmp .ge 21, 3) := by decide +kernel
theorem dX11_orders_34 : decode cX11_orders 34 = .ok (.aload_n 0, 1) := by decide +kernel
theorem dX11_orders_35 : decode cX11_orders 35 = .ok (.getfield 68, 3) := by decide +kernel
theorem dX11_orders_38 : decode cX11_orders 38 = .ok (.iload_n 1, 1) := by decide +kernel
theorem dX11_orders_39 : decode cX11_orders 39 = .ok (.aload_n 0, 1) := by decide +kernel
theorem dX11_orders_40 : decode cX11_orders 40 = .ok (.getfield 65, 3) := by decide +kernel
theorem dX11_orders_43 : decode cX11_orders 43 = .ok (.iload_n 1, 1) := by decide +kernel
theorem dX11_orders_44 : decode cX11_orders 44 = .ok (.iaload, 1) := by decide +kernel
theorem dX11_orders_45 : decode cX11_orders 45 = .ok (.iastore, 1) := by decide +kernel
theorem dX11_orders_46 : decode cX11_orders 46 = .ok (.iinc 1 1, 3) := by decide +kernel
theorem dX11_orders_49 : decode cX11_orders 49 = .ok (.goto (-22), 3) := by decide +kernel
theorem dX11_orders_52 : decode cX11_orders 52 = .ok (.aload_n 0, 1) := by decide +kernel
theorem dX11_orders_53 : decode cX11_orders 53 = .ok (.getfield 11, 3) := by decide +kernel
theorem dX11_orders_56 : decode cX11_orders 56 = .ok (.istore_n 1, 1) := by decide +kernel
theorem dX11_orders_57 : decode cX11_orders 57 = .ok (.aload_n 0, 1) := by decide +kernel
theorem dX11_orders_58 : decode cX11_orders 58 = .ok (.bipush 6, 2) := by decide +kernel
theorem dX11_orders_60 : decode cX11_orders 60 = .ok (.invokevirtual 243, 3) := by decide +kernel
theorem dX11_orders_63 : decode cX11_orders 63 = .ok (.aload_n 0, 1) := by decide +kernel
theorem dX11_orders_64 : decode cX11_orders 64 = .ok (.iconst 0, 1) := by decide +kernel
theorem dX11_orders_65 : decode cX11_orders 65 = .ok (.putfield 285, 3) := by decide +kernel
theorem dX11_orders_68 : decode cX11_orders 68 = .ok (.aload_n 0, 1) := by decide +kernel
theorem dX11_orders_69 : decode cX11_orders 69 = .ok (.iconst (-1), 1) := by decide +kernel
theorem dX11_orders_70 : decode cX11_orders 70 = .ok (.putfield 288, 3) := by decide +kernel
theorem dX11_orders_73 : decode cX11_orders 73 = .ok (.aload_n 0, 1) := by decide +kernel
theorem dX11_orders_74 : decode cX11_orders 74 = .ok (.sipush 2400, 3) := by decide +kernel
theorem dX11_orders_77 : decode cX11_orders 77 = .ok (.putfield 419, 3) := by decide +kernel
theorem dX11_orders_80 : decode cX11_orders 80 = .ok (.aload_n 0, 1) := by decide +kernel
theorem dX11_orders_81 : decode cX11_orders 81 = .ok (.getfield 419, 3) := by decide +kernel
theorem dX11_orders_84 : decode cX11_orders 84 = .ok (.aload_n 0, 1) := by decide +kernel
theorem dX11_orders_85 : decode cX11_orders 85 = .ok (.getfield 24, 3) := by decide +kernel
theorem dX11_orders_88 : decode cX11_orders 88 = .ok (.bipush 86, 2) := by decide +kernel
theorem dX11_orders_90 : decode cX11_orders 90 = .ok (.iaload, 1) := by decide +kernel
theorem dX11_orders_91 : decode cX11_orders 91 = .ok (.iadd, 1) := by decide +kernel
theorem dX11_orders_92 : decode cX11_orders 92 = .ok (.istore_n 2, 1) := by decide +kernel
theorem dX11_orders_93 : decode cX11_orders 93 = .ok (.iconst 0, 1) := by decide +kernel
theorem dX11_orders_94 : decode cX11_orders 94 = .ok (.istore_n 3, 1) := by decide +kernel
theorem dX11_orders_95 : decode cX11_orders 95 = .ok (.aload_n 0, 1) := by decide +kernel
theorem dX11_orders_96 : decode cX11_orders 96 = .ok (.getfield 419, 3) := by decide +kernel
theorem dX11_orders_99 : decode cX11_orders 99 = .ok (.iload_n 2, 1) := by decide +kernel
theorem dX11_orders_100 : decode cX11_orders 100 = .ok (.if_icmp .ge 73, 3) := by decide +kernel
theorem dX11_orders_103 : decode cX11_orders 103 = .ok (.aload_n 0, 1) := by decide +kernel
theorem dX11_orders_104 : decode cX11_orders 104 = .ok (.iload_n 2, 1) := by decide +kernel
theorem dX11_orders_105 : decode cX11_orders 105 = .ok (.invokevirtual 422, 3) := by decide +kernel
theorem dX11_orders_108 : decode cX11_orders 108 = .ok (.ifCond .eq 6, 3) := by decide +kernel
theorem dX11_orders_111 : decode cX11_orders 111 = .ok (.goto 56, 3) := by decide +kernel
theorem dX11_orders_114 : decode cX11_orders 114 = .ok (.aload_n 0, 1) := by decide +kernel
theorem dX11_orders_115 : decode cX11_orders 115 = .ok (.iconst 0, 1) := by decide +kernel
theorem dX11_orders_116 : decode cX11_orders 116 = .ok (.invokevirtual 425, 3) := by decide +kernel
theorem dX11_orders_119 : decode cX11_orders 119 = .ok (.iconst 0, 1) := by decide +kernel
theorem dX11_orders_120 : decode cX11_orders 120 = .ok (.istore 4, 2) := by decide +kernel
theorem dX11_orders_122 : decode cX11_orders 122 = .ok (.iload 4, 2) := by decide +kernel
theorem dX11_orders_124 : decode cX11_orders 124 = .ok (.sipush 384, 3) := by decide +kernel
theorem dX11_orders_127 : decode cX11_orders 127 = .ok (.if_icmp .ge 23, 3) := by decide +kernel
theorem dX11_orders_130 : decode cX11_orders 130 = .ok (.aload_n 0, 1) := by decide +kernel
theorem dX11_orders_131 : decode cX11_orders 131 = .ok (.getfield 65, 3) := by decide +kernel
theorem dX11_orders_134 : decode cX11_orders 134 = .ok (.iload 4, 2) := by decide +kernel
theorem dX11_orders_136 : decode cX11_orders 136 = .ok (.aload_n 0, 1) := by decide +kernel
theorem dX11_orders_137 : decode cX11_orders 137 = .ok (.getfield 68, 3) := by decide +kernel
theorem dX11_orders_140 : decode cX11_orders 140 = .ok (.iload 4, 2) := by decide +kernel
theorem dX11_orders_142 : decode cX11_orders 142 = .ok (.iaload, 1) := by decide +kernel
theorem dX11_orders_143 : decode cX11_orders 143 = .ok (.iastore, 1) := by decide +kernel
theorem dX11_orders_144 : decode cX11_orders 144 = .ok (.iinc 4 1, 3) := by decide +kernel
theorem dX11_orders_147 : decode cX11_orders 147 = .ok (.goto (-25), 3) := by decide +kernel
theorem dX11_orders_150 : decode cX11_orders 150 = .ok (.aload_n 0, 1) := by decide +kernel
theorem dX11_orders_151 : decode cX11_orders 151 = .ok (.iload_n 1, 1) := by decide +kernel
theorem dX11_orders_152 : decode cX11_orders 152 = .ok (.putfield 11, 3) := by decide +kernel
theorem dX11_orders_155 : decode cX11_orders 155 = .ok (.aload_n 0, 1) := by decide +kernel
theorem dX11_orders_156 : decode cX11_orders 156 = .ok (.iload_n 3, 1) := by decide +kernel
theorem dX11_orders_157 : decode cX11_orders 157 = .ok (.putfield 78, 3) := by decide +kernel
theorem dX11_orders_160 : decode cX11_orders 160 = .ok (.aload_n 0, 1) := by decide +kernel
theorem dX11_orders_161 : decode cX11_orders 161 = .ok (.bipush (-3), 2) := by decide +kernel
theorem dX11_orders_163 : decode cX11_orders 163 = .ok (.invokevirtual 94, 3) := by decide +kernel
theorem dX11_orders_166 : decode cX11_orders 166 = .ok (.ireturn, 1) := by decide +kernel
theorem dX11_orders_167 : decode cX11_orders 167 = .ok (.iinc 3 1, 3) := by decide +kernel
theorem dX11_orders_170 : decode cX11_orders 170 = .ok (.goto (-75), 3) := by decide +kernel
theorem dX11_orders_173 : decode cX11_orders 173 = .ok (.aload_n 0, 1) := by decide +kernel
theorem dX11_orders_174 : decode cX11_orders 174 = .ok (.aload_n 0, 1) := by decide +kernel
theorem dX11_orders_175 : decode cX11_orders 175 = .ok (.getfield 285, 3) := by decide +kernel
theorem dX11_orders_178 : decode cX11_orders 178 = .ok (.invokevirtual 14, 3) := by decide +kernel
theorem dX11_orders_181 : decode cX11_orders 181 = .ok (.ireturn, 1) := by decide +kernel
theorem dX11_goesAlong_0 : decode cX11_goesAlong 0 = .ok (.aload_n 0, 1) := by decide +kernel
theorem dX11_goesAlong_1 : decode cX11_goesAlong 1 = .ok (.iconst 1, 1) := by decide +kernel
theorem dX11_goesAlong_2 : decode cX11_goesAlong 2 = .ok (.putfield 279, 3) := by decide +kernel
theorem dX11_goesAlong_5 : decode cX11_goesAlong 5 = .ok (.aload_n 0, 1) := by decide +kernel
theorem dX11_goesAlong_6 : decode cX11_goesAlong 6 = .ok (.iload_n 1, 1) := by decide +kernel
theorem dX11_goesAlong_7 : decode cX11_goesAlong 7 = .ok (.putfield 246, 3) := by decide +kernel
theorem dX11_goesAlong_10 : decode cX11_goesAlong 10 = .ok (.aload_n 0, 1) := by decide +kernel
theorem dX11_goesAlong_11 : decode cX11_goesAlong 11 = .ok (.aload_n 0, 1) := by decide +kernel
theorem dX11_goesAlong_12 : decode cX11_goesAlong 12 = .ok (.getfield 419, 3) := by decide +kernel
theorem dX11_goesAlong_15 : decode cX11_goesAlong 15 = .ok (.putfield 249, 3) := by decide +kernel
theorem dX11_goesAlong_18 : decode cX11_goesAlong 18 = .ok (.aload_n 0, 1) := by decide +kernel
theorem dX11_goesAlong_19 : decode cX11_goesAlong 19 = .ok (.aload_n 0, 1) := by decide +kernel
theorem dX11_goesAlong_20 : decode cX11_goesAlong 20 = .ok (.aload_n 0, 1) := by decide +kernel
theorem dX11_goesAlong_21 : decode cX11_goesAlong 21 = .ok (.getfield 249, 3) := by decide +kernel
theorem dX11_goesAlong_24 : decode cX11_goesAlong 24 = .ok (.invokevirtual 252, 3) := by decide +kernel
theorem dX11_goesAlong_27 : decode cX11_goesAlong 27 = .ok (.putfield 428, 3) := by decide +kernel
theorem dX11_goesAlong_30 : decode cX11_goesAlong 30 = .ok (.aload_n 0, 1) := by decide +kernel
theorem dX11_goesAlong_31 : decode cX11_goesAlong 31 = .ok (.dup, 1) := by decide +kernel
theorem dX11_goesAlong_32 : decode cX11_goesAlong 32 = .ok (.getfield 249, 3) := by decide +kernel
theorem dX11_goesAlong_35 : decode cX11_goesAlong 35 = .ok (.iconst 1, 1) := by decide +kernel
theorem dX11_goesAlong_36 : decode cX11_goesAlong 36 = .ok (.iadd, 1) := by decide +kernel
theorem dX11_goesAlong_37 : decode cX11_goesAlong 37 = .ok (.putfield 249, 3) := by decide +kernel
theorem dX11_goesAlong_40 : decode cX11_goesAlong 40 = .ok (.aload_n 0, 1) := by decide +kernel
theorem dX11_goesAlong_41 : decode cX11_goesAlong 41 = .ok (.iconst 1, 1) := by decide +kernel
theorem dX11_goesAlong_42 : decode cX11_goesAlong 42 = .ok (.putfield 431, 3) := by decide +kernel
theorem dX11_goesAlong_45 : decode cX11_goesAlong 45 = .ok (.aload_n 0, 1) := by decide +kernel
theorem dX11_goesAlong_46 : decode cX11_goesAlong 46 = .ok (.getfield 428, 3) := by decide +kernel
theorem dX11_goesAlong_49 : decode cX11_goesAlong 49 = .ok (.bipush 21, 2) := by decide +kernel
theorem dX11_goesAlong_51 : decode cX11_goesAlong 51 = .ok (.if_icmp .eq 12, 3) := by decide +kernel
theorem dX11_goesAlong_54 : decode cX11_goesAlong 54 = .ok (.aload_n 0, 1) := by decide +kernel
theorem dX11_goesAlong_55 : decode cX11_goesAlong 55 = .ok (.getfield 428, 3) := by decide +kernel
theorem dX11_goesAlong_58 : decode cX11_goesAlong 58 = .ok (.bipush 24, 2) := by decide +kernel
theorem dX11_goesAlong_60 : decode cX11_goesAlong 60 = .ok (.if_icmp .ne 7, 3) := by decide +kernel
theorem dX11_goesAlong_63 : decode cX11_goesAlong 63 = .ok (.iconst 2, 1) := by decide +kernel
theorem dX11_goesAlong_64 : decode cX11_goesAlong 64 = .ok (.goto 4, 3) := by decide +kernel
theorem dX11_goesAlong_67 : decode cX11_goesAlong 67 = .ok (.iconst 1, 1) := by decide +kernel
theorem dX11_goesAlong_68 : decode cX11_goesAlong 68 = .ok (.istore_n 3, 1) := by decide +kernel
theorem dX11_goesAlong_69 : decode cX11_goesAlong 69 = .ok (.iconst 0, 1) := by decide +kernel
theorem dX11_goesAlong_70 : decode cX11_goesAlong 70 = .ok (.istore 4, 2) := by decide +kernel
theorem dX11_goesAlong_72 : decode cX11_goesAlong 72 = .ok (.iload 4, 2) := by decide +kernel
theorem dX11_goesAlong_74 : decode cX11_goesAlong 74 = .ok (.iload_n 3, 1) := by decide +kernel
theorem dX11_goesAlong_75 : decode cX11_goesAlong 75 = .ok (.if_icmp .ge 64, 3) := by decide +kernel
theorem dX11_goesAlong_78 : decode cX11_goesAlong 78 = .ok (.iload 4, 2) := by decide +kernel
theorem dX11_goesAlong_80 : decode cX11_goesAlong 80 = .ok (.ifCond .le 13, 3) := by decide +kernel
theorem dX11_goesAlong_83 : decode cX11_goesAlong 83 = .ok (.aload_n 0, 1) := by decide +kernel
theorem dX11_goesAlong_84 : decode cX11_goesAlong 84 = .ok (.dup, 1) := by decide +kernel
theorem dX11_goesAlong_85 : decode cX11_goesAlong 85 = .ok (.getfield 249, 3) := by decide +kernel
theorem dX11_goesAlong_88 : decode cX11_goesAlong 88 = .ok (.iconst 1, 1) := by decide +kernel
theorem dX11_goesAlong_89 : decode cX11_goesAlong 89 = .ok (.iadd, 1) := by decide +kernel
theorem dX11_goesAlong_90 : decode cX11_goesAlong 90 = .ok (.putfield 249, 3) := by decide +kernel
theorem dX11_goesAlong_93 : decode cX11_goesAlong 93 = .ok (.aload_n 0, 1) := by decide +kernel
theorem dX11_goesAlong_94 : decode cX11_goesAlong 94 = .ok (.iconst 0, 1) := by decide +kernel
theorem dX11_goesAlong_95 : decode cX11_goesAlong 95 = .ok (.putfield 259, 3) := by decide +kernel
theorem dX11_goesAlong_98 : decode cX11_goesAlong 98 = .ok (.aload_n 0, 1) := by decide +kernel
theorem dX11_goesAlong_99 : decode cX11_goesAlong 99 = .ok (.getfield 81, 3) := by decide +kernel
theorem dX11_goesAlong_102 : decode cX11_goesAlong 102 = .ok (.iload 4, 2) := by decide +kernel
theorem dX11_goesAlong_104 : decode cX11_goesAlong 104 = .ok (.aload_n 0, 1) := by decide +kernel
theorem dX11_goesAlong_105 : decode cX11_goesAlong 105 = .ok (.iload_n 2, 1) := by decide +kernel
theorem dX11_goesAlong_106 : decode cX11_goesAlong 106 = .ok (.invokevirtual 276, 3) := by decide +kernel
theorem dX11_goesAlong_109 : decode cX11_goesAlong 109 = .ok (.lastore, 1) := by decide +kernel
theorem dX11_goesAlong_110 : decode cX11_goesAlong 110 = .ok (.aload_n 0, 1) := by decide +kernel
theorem dX11_goesAlong_111 : decode cX11_goesAlong 111 = .ok (.aload_n 0, 1) := by decide +kernel
