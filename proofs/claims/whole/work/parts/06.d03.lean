theorem dX7_enlist_17 : decode cX7_enlist 17 = .ok (.iload_n 2, 1) := by decide +kernel
theorem dX7_enlist_18 : decode cX7_enlist 18 = .ok (.iastore, 1) := by decide +kernel
theorem dX7_enlist_19 : decode cX7_enlist 19 = .ok (.aload_n 0, 1) := by decide +kernel
theorem dX7_enlist_20 : decode cX7_enlist 20 = .ok (.getfield 18, 3) := by decide +kernel
theorem dX7_enlist_23 : decode cX7_enlist 23 = .ok (.iload_n 3, 1) := by decide +kernel
theorem dX7_enlist_24 : decode cX7_enlist 24 = .ok (.aload_n 0, 1) := by decide +kernel
theorem dX7_enlist_25 : decode cX7_enlist 25 = .ok (.getfield 30, 3) := by decide +kernel
theorem dX7_enlist_28 : decode cX7_enlist 28 = .ok (.iconst 0, 1) := by decide +kernel
theorem dX7_enlist_29 : decode cX7_enlist 29 = .ok (.iaload, 1) := by decide +kernel
theorem dX7_enlist_30 : decode cX7_enlist 30 = .ok (.iastore, 1) := by decide +kernel
theorem dX7_enlist_31 : decode cX7_enlist 31 = .ok (.aload_n 0, 1) := by decide +kernel
theorem dX7_enlist_32 : decode cX7_enlist 32 = .ok (.dup, 1) := by decide +kernel
theorem dX7_enlist_33 : decode cX7_enlist 33 = .ok (.getfield 58, 3) := by decide +kernel
theorem dX7_enlist_36 : decode cX7_enlist 36 = .ok (.iconst 1, 1) := by decide +kernel
theorem dX7_enlist_37 : decode cX7_enlist 37 = .ok (.iload_n 3, 1) := by decide +kernel
theorem dX7_enlist_38 : decode cX7_enlist 38 = .ok (.ishl, 1) := by decide +kernel
theorem dX7_enlist_39 : decode cX7_enlist 39 = .ok (.ior, 1) := by decide +kernel
theorem dX7_enlist_40 : decode cX7_enlist 40 = .ok (.putfield 58, 3) := by decide +kernel
theorem dX7_enlist_43 : decode cX7_enlist 43 = .ok (.aload_n 0, 1) := by decide +kernel
theorem dX7_enlist_44 : decode cX7_enlist 44 = .ok (.dup, 1) := by decide +kernel
theorem dX7_enlist_45 : decode cX7_enlist 45 = .ok (.getfield 49, 3) := by decide +kernel
theorem dX7_enlist_48 : decode cX7_enlist 48 = .ok (.iconst 1, 1) := by decide +kernel
theorem dX7_enlist_49 : decode cX7_enlist 49 = .ok (.iadd, 1) := by decide +kernel
theorem dX7_enlist_50 : decode cX7_enlist 50 = .ok (.putfield 49, 3) := by decide +kernel
theorem dX7_enlist_53 : decode cX7_enlist 53 = .ok (.iload_n 3, 1) := by decide +kernel
theorem dX7_enlist_54 : decode cX7_enlist 54 = .ok (.ireturn, 1) := by decide +kernel
theorem dX7_addGround_0 : decode cX7_addGround 0 = .ok (.aload_n 0, 1) := by decide +kernel
theorem dX7_addGround_1 : decode cX7_addGround 1 = .ok (.getfield 61, 3) := by decide +kernel
theorem dX7_addGround_4 : decode cX7_addGround 4 = .ok (.istore 5, 2) := by decide +kernel
theorem dX7_addGround_6 : decode cX7_addGround 6 = .ok (.aload_n 0, 1) := by decide +kernel
theorem dX7_addGround_7 : decode cX7_addGround 7 = .ok (.getfield 21, 3) := by decide +kernel
theorem dX7_addGround_10 : decode cX7_addGround 10 = .ok (.iload 5, 2) := by decide +kernel
theorem dX7_addGround_12 : decode cX7_addGround 12 = .ok (.iload_n 1, 1) := by decide +kernel
theorem dX7_addGround_13 : decode cX7_addGround 13 = .ok (.iastore, 1) := by decide +kernel
theorem dX7_addGround_14 : decode cX7_addGround 14 = .ok (.aload_n 0, 1) := by decide +kernel
theorem dX7_addGround_15 : decode cX7_addGround 15 = .ok (.getfield 24, 3) := by decide +kernel
theorem dX7_addGround_18 : decode cX7_addGround 18 = .ok (.iload 5, 2) := by decide +kernel
theorem dX7_addGround_20 : decode cX7_addGround 20 = .ok (.iconst 3, 1) := by decide +kernel
theorem dX7_addGround_21 : decode cX7_addGround 21 = .ok (.imul, 1) := by decide +kernel
theorem dX7_addGround_22 : decode cX7_addGround 22 = .ok (.iload_n 2, 1) := by decide +kernel
theorem dX7_addGround_23 : decode cX7_addGround 23 = .ok (.iastore, 1) := by decide +kernel
theorem dX7_addGround_24 : decode cX7_addGround 24 = .ok (.aload_n 0, 1) := by decide +kernel
theorem dX7_addGround_25 : decode cX7_addGround 25 = .ok (.getfield 24, 3) := by decide +kernel
theorem dX7_addGround_28 : decode cX7_addGround 28 = .ok (.iload 5, 2) := by decide +kernel
theorem dX7_addGround_30 : decode cX7_addGround 30 = .ok (.iconst 3, 1) := by decide +kernel
theorem dX7_addGround_31 : decode cX7_addGround 31 = .ok (.imul, 1) := by decide +kernel
theorem dX7_addGround_32 : decode cX7_addGround 32 = .ok (.iconst 1, 1) := by decide +kernel
theorem dX7_addGround_33 : decode cX7_addGround 33 = .ok (.iadd, 1) := by decide +kernel
theorem dX7_addGround_34 : decode cX7_addGround 34 = .ok (.iload_n 3, 1) := by decide +kernel
theorem dX7_addGround_35 : decode cX7_addGround 35 = .ok (.iastore, 1) := by decide +kernel
theorem dX7_addGround_36 : decode cX7_addGround 36 = .ok (.aload_n 0, 1) := by decide +kernel
theorem dX7_addGround_37 : decode cX7_addGround 37 = .ok (.getfield 24, 3) := by decide +kernel
theorem dX7_addGround_40 : decode cX7_addGround 40 = .ok (.iload 5, 2) := by decide +kernel
theorem dX7_addGround_42 : decode cX7_addGround 42 = .ok (.iconst 3, 1) := by decide +kernel
theorem dX7_addGround_43 : decode cX7_addGround 43 = .ok (.imul, 1) := by decide +kernel
theorem dX7_addGround_44 : decode cX7_addGround 44 = .ok (.iconst 2, 1) := by decide +kernel
theorem dX7_addGround_45 : decode cX7_addGround 45 = .ok (.iadd, 1) := by decide +kernel
theorem dX7_addGround_46 : decode cX7_addGround 46 = .ok (.iload 4, 2) := by decide +kernel
theorem dX7_addGround_48 : decode cX7_addGround 48 = .ok (.iastore, 1) := by decide +kernel
theorem dX7_addGround_49 : decode cX7_addGround 49 = .ok (.aload_n 0, 1) := by decide +kernel
theorem dX7_addGround_50 : decode cX7_addGround 50 = .ok (.dup, 1) := by decide +kernel
theorem dX7_addGround_51 : decode cX7_addGround 51 = .ok (.getfield 61, 3) := by decide +kernel
theorem dX7_addGround_54 : decode cX7_addGround 54 = .ok (.iconst 1, 1) := by decide +kernel
theorem dX7_addGround_55 : decode cX7_addGround 55 = .ok (.iadd, 1) := by decide +kernel
theorem dX7_addGround_56 : decode cX7_addGround 56 = .ok (.putfield 61, 3) := by decide +kernel
theorem dX7_addGround_59 : decode cX7_addGround 59 = .ok (.iload 5, 2) := by decide +kernel
theorem dX7_addGround_61 : decode cX7_addGround 61 = .ok (.ireturn, 1) := by decide +kernel
theorem dX7_addLaw_0 : decode cX7_addLaw 0 = .ok (.aload_n 0, 1) := by decide +kernel
theorem dX7_addLaw_1 : decode cX7_addLaw 1 = .ok (.getfield 73, 3) := by decide +kernel
theorem dX7_addLaw_4 : decode cX7_addLaw 4 = .ok (.istore_n 2, 1) := by decide +kernel
theorem dX7_addLaw_5 : decode cX7_addLaw 5 = .ok (.aload_n 0, 1) := by decide +kernel
theorem dX7_addLaw_6 : decode cX7_addLaw 6 = .ok (.getfield 41, 3) := by decide +kernel
theorem dX7_addLaw_9 : decode cX7_addLaw 9 = .ok (.iload_n 2, 1) := by decide +kernel
theorem dX7_addLaw_10 : decode cX7_addLaw 10 = .ok (.aload_n 1, 1) := by decide +kernel
theorem dX7_addLaw_11 : decode cX7_addLaw 11 = .ok (.aastore, 1) := by decide +kernel
theorem dX7_addLaw_12 : decode cX7_addLaw 12 = .ok (.aload_n 0, 1) := by decide +kernel
theorem dX7_addLaw_13 : decode cX7_addLaw 13 = .ok (.dup, 1) := by decide +kernel
theorem dX7_addLaw_14 : decode cX7_addLaw 14 = .ok (.getfield 73, 3) := by decide +kernel
theorem dX7_addLaw_17 : decode cX7_addLaw 17 = .ok (.iconst 1, 1) := by decide +kernel
theorem dX7_addLaw_18 : decode cX7_addLaw 18 = .ok (.iadd, 1) := by decide +kernel
theorem dX7_addLaw_19 : decode cX7_addLaw 19 = .ok (.putfield 73, 3) := by decide +kernel
theorem dX7_addLaw_22 : decode cX7_addLaw 22 = .ok (.iload_n 2, 1) := by decide +kernel
theorem dX7_addLaw_23 : decode cX7_addLaw 23 = .ok (.ireturn, 1) := by decide +kernel
theorem dX7_addWord_0 : decode cX7_addWord 0 = .ok (.aload_n 0, 1) := by decide +kernel
theorem dX7_addWord_1 : decode cX7_addWord 1 = .ok (.getfield 33, 3) := by decide +kernel
theorem dX7_addWord_4 : decode cX7_addWord 4 = .ok (.aload_n 0, 1) := by decide +kernel
theorem dX7_addWord_5 : decode cX7_addWord 5 = .ok (.getfield 70, 3) := by decide +kernel
theorem dX7_addWord_8 : decode cX7_addWord 8 = .ok (.iload_n 1, 1) := by decide +kernel
theorem dX7_addWord_9 : decode cX7_addWord 9 = .ok (.iastore, 1) := by decide +kernel
theorem dX7_addWord_10 : decode cX7_addWord 10 = .ok (.aload_n 0, 1) := by decide +kernel
theorem dX7_addWord_11 : decode cX7_addWord 11 = .ok (.getfield 36, 3) := by decide +kernel
theorem dX7_addWord_14 : decode cX7_addWord 14 = .ok (.aload_n 0, 1) := by decide +kernel
theorem dX7_addWord_15 : decode cX7_addWord 15 = .ok (.getfield 70, 3) := by decide +kernel
theorem dX7_addWord_18 : decode cX7_addWord 18 = .ok (.iload_n 2, 1) := by decide +kernel
theorem dX7_addWord_19 : decode cX7_addWord 19 = .ok (.iastore, 1) := by decide +kernel
theorem dX7_addWord_20 : decode cX7_addWord 20 = .ok (.aload_n 0, 1) := by decide +kernel
theorem dX7_addWord_21 : decode cX7_addWord 21 = .ok (.dup, 1) := by decide +kernel
theorem dX7_addWord_22 : decode cX7_addWord 22 = .ok (.getfield 70, 3) := by decide +kernel
theorem dX7_addWord_25 : decode cX7_addWord 25 = .ok (.iconst 1, 1) := by decide +kernel
theorem dX7_addWord_26 : decode cX7_addWord 26 = .ok (.iadd, 1) := by decide +kernel
theorem dX7_addWord_27 : decode cX7_addWord 27 = .ok (.putfield 70, 3) := by decide +kernel
theorem dX7_addWord_30 : decode cX7_addWord 30 = .ok (.aload_n 0, 1) := by decide +kernel
theorem dX7_addWord_31 : decode cX7_addWord 31 = .ok (.getfield 70, 3) := by decide +kernel
theorem dX7_addWord_34 : decode cX7_addWord 34 = .ok (.ireturn, 1) := by decide +kernel
theorem dX7_lawInForce_0 : decode cX7_lawInForce 0 = .ok (.aload_n 0, 1) := by decide +kernel
theorem dX7_lawInForce_1 : decode cX7_lawInForce 1 = .ok (.getfield 45, 3) := by decide +kernel
theorem dX7_lawInForce_4 : decode cX7_lawInForce 4 = .ok (.ifCond .lt 26, 3) := by decide +kernel
theorem dX7_lawInForce_7 : decode cX7_lawInForce 7 = .ok (.aload_n 0, 1) := by decide +kernel
theorem dX7_lawInForce_8 : decode cX7_lawInForce 8 = .ok (.getfield 45, 3) := by decide +kernel
theorem dX7_lawInForce_11 : decode cX7_lawInForce 11 = .ok (.aload_n 0, 1) := by decide +kernel
theorem dX7_lawInForce_12 : decode cX7_lawInForce 12 = .ok (.getfield 73, 3) := by decide +kernel
theorem dX7_lawInForce_15 : decode cX7_lawInForce 15 = .ok (.if_icmp .ge 15, 3) := by decide +kernel
theorem dX7_lawInForce_18 : decode cX7_lawInForce 18 = .ok (.aload_n 0, 1) := by decide +kernel
theorem dX7_lawInForce_19 : decode cX7_lawInForce 19 = .ok (.getfield 41, 3) := by decide +kernel
theorem dX7_lawInForce_22 : decode cX7_lawInForce 22 = .ok (.aload_n 0, 1) := by decide +kernel
theorem dX7_lawInForce_23 : decode cX7_lawInForce 23 = .ok (.getfield 45, 3) := by decide +kernel
theorem dX7_lawInForce_26 : decode cX7_lawInForce 26 = .ok (.aaload, 1) := by decide +kernel
theorem dX7_lawInForce_27 : decode cX7_lawInForce 27 = .ok (.goto 4, 3) := by decide +kernel
theorem dX7_lawInForce_30 : decode cX7_lawInForce 30 = .ok (.aconst_null, 1) := by decide +kernel
theorem dX7_lawInForce_31 : decode cX7_lawInForce 31 = .ok (.areturn, 1) := by decide +kernel
theorem dX7_chanceOf_0 : decode cX7_chanceOf 0 = .ok (.iload_n 1, 1) := by decide +kernel
theorem dX7_chanceOf_1 : decode cX7_chanceOf 1 = .ok (.iconst 3, 1) := by decide +kernel
theorem dX7_chanceOf_2 : decode cX7_chanceOf 2 = .ok (.imul, 1) := by decide +kernel
theorem dX7_chanceOf_3 : decode cX7_chanceOf 3 = .ok (.istore_n 3, 1) := by decide +kernel
theorem dX7_chanceOf_4 : decode cX7_chanceOf 4 = .ok (.iload_n 2, 1) := by decide +kernel
theorem dX7_chanceOf_5 : decode cX7_chanceOf 5 = .ok (.ifCond .ne 31, 3) := by decide +kernel
theorem dX7_chanceOf_8 : decode cX7_chanceOf 8 = .ok (.bipush 10, 2) := by decide +kernel
theorem dX7_chanceOf_10 : decode cX7_chanceOf 10 = .ok (.aload_n 0, 1) := by decide +kernel
theorem dX7_chanceOf_11 : decode cX7_chanceOf 11 = .ok (.getfield 24, 3) := by decide +kernel
theorem dX7_chanceOf_14 : decode cX7_chanceOf 14 = .ok (.iload_n 3, 1) := by decide +kernel
theorem dX7_chanceOf_15 : decode cX7_chanceOf 15 = .ok (.iaload, 1) := by decide +kernel
theorem dX7_chanceOf_16 : decode cX7_chanceOf 16 = .ok (.isub, 1) := by decide +kernel
theorem dX7_chanceOf_17 : decode cX7_chanceOf 17 = .ok (.aload_n 0, 1) := by decide +kernel
theorem dX7_chanceOf_18 : decode cX7_chanceOf 18 = .ok (.getfield 24, 3) := by decide +kernel
theorem dX7_chanceOf_21 : decode cX7_chanceOf 21 = .ok (.iload_n 3, 1) := by decide +kernel
theorem dX7_chanceOf_22 : decode cX7_chanceOf 22 = .ok (.iconst 1, 1) := by decide +kernel
theorem dX7_chanceOf_23 : decode cX7_chanceOf 23 = .ok (.iadd, 1) := by decide +kernel
theorem dX7_chanceOf_24 : decode cX7_chanceOf 24 = .ok (.iaload, 1) := by decide +kernel
theorem dX7_chanceOf_25 : decode cX7_chanceOf 25 = .ok (.isub, 1) := by decide +kernel
theorem dX7_chanceOf_26 : decode cX7_chanceOf 26 = .ok (.aload_n 0, 1) := by decide +kernel
theorem dX7_chanceOf_27 : decode cX7_chanceOf 27 = .ok (.getfield 24, 3) := by decide +kernel
theorem dX7_chanceOf_30 : decode cX7_chanceOf 30 = .ok (.iload_n 3, 1) := by decide +kernel
theorem dX7_chanceOf_31 : decode cX7_chanceOf 31 = .ok (.iconst 2, 1) := by decide +kernel
theorem dX7_chanceOf_32 : decode cX7_chanceOf 32 = .ok (.iadd, 1) := by decide +kernel
theorem dX7_chanceOf_33 : decode cX7_chanceOf 33 = .ok (.iaload, 1) := by decide +kernel
theorem dX7_chanceOf_34 : decode cX7_chanceOf 34 = .ok (.isub, 1) := by decide +kernel
theorem dX7_chanceOf_35 : decode cX7_chanceOf 35 = .ok (.ireturn, 1) := by decide +kernel
theorem dX7_chanceOf_36 : decode cX7_chanceOf 36 = .ok (.aload_n 0, 1) := by decide +kernel
theorem dX7_chanceOf_37 : decode cX7_chanceOf 37 = .ok (.getfield 24, 3) := by decide +kernel
theorem dX7_chanceOf_40 : decode cX7_chanceOf 40 = .ok (.iload_n 3, 1) := by decide +kernel
theorem dX7_chanceOf_41 : decode cX7_chanceOf 41 = .ok (.iload_n 2, 1) := by decide +kernel
theorem dX7_chanceOf_42 : decode cX7_chanceOf 42 = .ok (.iadd, 1) := by decide +kernel
theorem dX7_chanceOf_43 : decode cX7_chanceOf 43 = .ok (.iconst 1, 1) := by decide +kernel
theorem dX7_chanceOf_44 : decode cX7_chanceOf 44 = .ok (.isub, 1) := by decide +kernel
theorem dX7_chanceOf_45 : decode cX7_chanceOf 45 = .ok (.iaload, 1) := by decide +kernel
theorem dX7_chanceOf_46 : decode cX7_chanceOf 46 = .ok (.ireturn, 1) := by decide +kernel
theorem dX7_priceIn_0 : decode cX7_priceIn 0 = .ok (.iload_n 1, 1) := by decide +kernel
theorem dX7_priceIn_1 : decode cX7_priceIn 1 = .ok (.bipush 12, 2) := by decide +kernel
theorem dX7_priceIn_3 : decode cX7_priceIn 3 = .ok (.idiv, 1) := by decide +kernel
theorem dX7_priceIn_4 : decode cX7_priceIn 4 = .ok (.istore_n 2, 1) := by decide +kernel
theorem dX7_priceIn_5 : decode cX7_priceIn 5 = .ok (.iload_n 2, 1) := by decide +kernel
theorem dX7_priceIn_6 : decode cX7_priceIn 6 = .ok (.ifCond .lt 18, 3) := by decide +kernel
theorem dX7_priceIn_9 : decode cX7_priceIn 9 = .ok (.iload_n 2, 1) := by decide +kernel
theorem dX7_priceIn_10 : decode cX7_priceIn 10 = .ok (.bipush 6, 2) := by decide +kernel
theorem dX7_priceIn_12 : decode cX7_priceIn 12 = .ok (.if_icmp .ge 12, 3) := by decide +kernel
theorem dX7_priceIn_15 : decode cX7_priceIn 15 = .ok (.aload_n 0, 1) := by decide +kernel
theorem dX7_priceIn_16 : decode cX7_priceIn 16 = .ok (.getfield 27, 3) := by decide +kernel
theorem dX7_priceIn_19 : decode cX7_priceIn 19 = .ok (.iload_n 2, 1) := by decide +kernel
theorem dX7_priceIn_20 : decode cX7_priceIn 20 = .ok (.iaload, 1) := by decide +kernel
theorem dX7_priceIn_21 : decode cX7_priceIn 21 = .ok (.goto 4, 3) := by decide +kernel
theorem dX7_priceIn_24 : decode cX7_priceIn 24 = .ok (.iconst 0, 1) := by decide +kernel
theorem dX7_priceIn_25 : decode cX7_priceIn 25 = .ok (.ireturn, 1) := by decide +kernel
theorem dX7_moneyNow_0 : decode cX7_moneyNow 0 = .ok (.aload_n 0, 1) := by decide +kernel
theorem dX7_moneyNow_1 : decode cX7_moneyNow 1 = .ok (.getfield 67, 3) := by decide +kernel
theorem dX7_moneyNow_4 : decode cX7_moneyNow 4 = .ok (.aload_n 0, 1) := by decide +kernel
theorem dX7_moneyNow_5 : decode cX7_moneyNow 5 = .ok (.getfield 64, 3) := by decide +kernel
theorem dX7_moneyNow_8 : decode cX7_moneyNow 8 = .ok (.aload_n 0, 1) := by decide +kernel
theorem dX7_moneyNow_9 : decode cX7_moneyNow 9 = .ok (.aload_n 0, 1) := by decide +kernel
theorem dX7_moneyNow_10 : decode cX7_moneyNow 10 = .ok (.getfield 30, 3) := by decide +kernel
theorem dX7_moneyNow_13 : decode cX7_moneyNow 13 = .ok (.iconst 0, 1) := by decide +kernel
theorem dX7_moneyNow_14 : decode cX7_moneyNow 14 = .ok (.iaload, 1) := by decide +kernel
theorem dX7_moneyNow_15 : decode cX7_moneyNow 15 = .ok (.invokevirtual 82, 3) := by decide +kernel
theorem dX7_moneyNow_18 : decode cX7_moneyNow 18 = .ok (.imul, 1) := by decide +kernel
theorem dX7_moneyNow_19 : decode cX7_moneyNow 19 = .ok (.iadd, 1) := by decide +kernel
theorem dX7_moneyNow_20 : decode cX7_moneyNow 20 = .ok (.ireturn, 1) := by decide +kernel
theorem dX7_wholeBy_0 : decode cX7_wholeBy 0 = .ok (.aload_n 0, 1) := by decide +kernel
theorem dX7_wholeBy_1 : decode cX7_wholeBy 1 = .ok (.getfield 9, 3) := by decide +kernel
theorem dX7_wholeBy_4 : decode cX7_wholeBy 4 = .ok (.iload_n 1, 1) := by decide +kernel
theorem dX7_wholeBy_5 : decode cX7_wholeBy 5 = .ok (.iaload, 1) := by decide +kernel
theorem dX7_wholeBy_6 : decode cX7_wholeBy 6 = .ok (.iconst 1, 1) := by decide +kernel
theorem dX7_wholeBy_7 : decode cX7_wholeBy 7 = .ok (.if_icmp .ge 7, 3) := by decide +kernel
theorem dX7_wholeBy_10 : decode cX7_wholeBy 10 = .ok (.iconst 0, 1) := by decide +kernel
theorem dX7_wholeBy_11 : decode cX7_wholeBy 11 = .ok (.goto 11, 3) := by decide +kernel
theorem dX7_wholeBy_14 : decode cX7_wholeBy 14 = .ok (.iload_n 2, 1) := by decide +kernel
theorem dX7_wholeBy_15 : decode cX7_wholeBy 15 = .ok (.aload_n 0, 1) := by decide +kernel
theorem dX7_wholeBy_16 : decode cX7_wholeBy 16 = .ok (.getfield 9, 3) := by decide +kernel
theorem dX7_wholeBy_19 : decode cX7_wholeBy 19 = .ok (.iload_n 1, 1) := by decide +kernel
theorem dX7_wholeBy_20 : decode cX7_wholeBy 20 = .ok (.iaload, 1) := by decide +kernel
theorem dX7_wholeBy_21 : decode cX7_wholeBy 21 = .ok (.idiv, 1) := by decide +kernel
theorem dX7_wholeBy_22 : decode cX7_wholeBy 22 = .ok (.ireturn, 1) := by decide +kernel
theorem dX7_wholeOf_0 : decode cX7_wholeOf 0 = .ok (.aload_n 0, 1) := by decide +kernel
theorem dX7_wholeOf_1 : decode cX7_wholeOf 1 = .ok (.iload_n 1, 1) := by decide +kernel
theorem dX7_wholeOf_2 : decode cX7_wholeOf 2 = .ok (.invokevirtual 85, 3) := by decide +kernel
theorem dX7_wholeOf_5 : decode cX7_wholeOf 5 = .ok (.ifCond .eq 15, 3) := by decide +kernel
theorem dX7_wholeOf_8 : decode cX7_wholeOf 8 = .ok (.aload_n 0, 1) := by decide +kernel
theorem dX7_wholeOf_9 : decode cX7_wholeOf 9 = .ok (.iload_n 1, 1) := by decide +kernel
theorem dX7_wholeOf_10 : decode cX7_wholeOf 10 = .ok (.aload_n 0, 1) := by decide +kernel
theorem dX7_wholeOf_11 : decode cX7_wholeOf 11 = .ok (.invokevirtual 89, 3) := by decide +kernel
theorem dX7_wholeOf_14 : decode cX7_wholeOf 14 = .ok (.invokevirtual 93, 3) := by decide +kernel
theorem dX7_wholeOf_17 : decode cX7_wholeOf 17 = .ok (.goto 4, 3) := by decide +kernel
theorem dX7_wholeOf_20 : decode cX7_wholeOf 20 = .ok (.iconst 0, 1) := by decide +kernel
theorem dX7_wholeOf_21 : decode cX7_wholeOf 21 = .ok (.ireturn, 1) := by decide +kernel
theorem dX7_ownersNow_0 : decode cX7_ownersNow 0 = .ok (.aload_n 0, 1) := by decide +kernel
theorem dX7_ownersNow_1 : decode cX7_ownersNow 1 = .ok (.invokevirtual 89, 3) := by decide +kernel
theorem dX7_ownersNow_4 : decode cX7_ownersNow 4 = .ok (.istore_n 1, 1) := by decide +kernel
theorem dX7_ownersNow_5 : decode cX7_ownersNow 5 = .ok (.iconst 0, 1) := by decide +kernel
theorem dX7_ownersNow_6 : decode cX7_ownersNow 6 = .ok (.istore_n 2, 1) := by decide +kernel
theorem dX7_ownersNow_7 : decode cX7_ownersNow 7 = .ok (.iload_n 2, 1) := by decide +kernel
theorem dX7_ownersNow_8 : decode cX7_ownersNow 8 = .ok (.aload_n 0, 1) := by decide +kernel
theorem dX7_ownersNow_9 : decode cX7_ownersNow 9 = .ok (.getfield 49, 3) := by decide +kernel
theorem dX7_ownersNow_12 : decode cX7_ownersNow 12 = .ok (.if_icmp .ge 17, 3) := by decide +kernel
theorem dX7_ownersNow_15 : decode cX7_ownersNow 15 = .ok (.iload_n 1, 1) := by decide +kernel
theorem dX7_ownersNow_16 : decode cX7_ownersNow 16 = .ok (.aload_n 0, 1) := by decide +kernel
theorem dX7_ownersNow_17 : decode cX7_ownersNow 17 = .ok (.iload_n 2, 1) := by decide +kernel
theorem dX7_ownersNow_18 : decode cX7_ownersNow 18 = .ok (.invokevirtual 97, 3) := by decide +kernel
theorem dX7_ownersNow_21 : decode cX7_ownersNow 21 = .ok (.isub, 1) := by decide +kernel
theorem dX7_ownersNow_22 : decode cX7_ownersNow 22 = .ok (.istore_n 1, 1) := by decide +kernel
theorem dX7_ownersNow_23 : decode cX7_ownersNow 23 = .ok (.iinc 2 1, 3) := by decide +kernel
theorem dX7_ownersNow_26 : decode cX7_ownersNow 26 = .ok (.goto (-19), 3) := by decide +kernel
theorem dX7_ownersNow_29 : decode cX7_ownersNow 29 = .ok (.iload_n 1, 1) := by decide +kernel
theorem dX7_ownersNow_30 : decode cX7_ownersNow 30 = .ok (.ireturn, 1) := by decide +kernel
theorem dX7_partsOf_0 : decode cX7_partsOf 0 = .ok (.aload_n 0, 1) := by decide +kernel
theorem dX7_partsOf_1 : decode cX7_partsOf 1 = .ok (.getfield 9, 3) := by decide +kernel
theorem dX7_partsOf_4 : decode cX7_partsOf 4 = .ok (.iload_n 1, 1) := by decide +kernel
theorem dX7_partsOf_5 : decode cX7_partsOf 5 = .ok (.iaload, 1) := by decide +kernel
theorem dX7_partsOf_6 : decode cX7_partsOf 6 = .ok (.iconst 1, 1) := by decide +kernel
theorem dX7_partsOf_7 : decode cX7_partsOf 7 = .ok (.if_icmp .ge 7, 3) := by decide +kernel
theorem dX7_partsOf_10 : decode cX7_partsOf 10 = .ok (.lconst 0, 1) := by decide +kernel
theorem dX7_partsOf_11 : decode cX7_partsOf 11 = .ok (.goto 14, 3) := by decide +kernel
theorem dX7_partsOf_14 : decode cX7_partsOf 14 = .ok (.ldc2_w 100, 3) := by decide +kernel
theorem dX7_partsOf_17 : decode cX7_partsOf 17 = .ok (.aload_n 0, 1) := by decide +kernel
theorem dX7_partsOf_18 : decode cX7_partsOf 18 = .ok (.getfield 9, 3) := by decide +kernel
theorem dX7_partsOf_21 : decode cX7_partsOf 21 = .ok (.iload_n 1, 1) := by decide +kernel
theorem dX7_partsOf_22 : decode cX7_partsOf 22 = .ok (.iaload, 1) := by decide +kernel
theorem dX7_partsOf_23 : decode cX7_partsOf 23 = .ok (.i2l, 1) := by decide +kernel
theorem dX7_partsOf_24 : decode cX7_partsOf 24 = .ok (.ldiv, 1) := by decide +kernel
theorem dX7_partsOf_25 : decode cX7_partsOf 25 = .ok (.lreturn, 1) := by decide +kernel
theorem dX8_init_0 : decode cX8_init 0 = .ok (.aload_n 0, 1) := by decide +kernel
theorem dX8_init_1 : decode cX8_init 1 = .ok (.invokespecial 3, 3) := by decide +kernel
theorem dX8_init_4 : decode cX8_init 4 = .ok (.aload_n 0, 1) := by decide +kernel
theorem dX8_init_5 : decode cX8_init 5 = .ok (.sipush 400, 3) := by decide +kernel
theorem dX8_init_8 : decode cX8_init 8 = .ok (.newarray .int, 2) := by decide +kernel
theorem dX8_init_10 : decode cX8_init 10 = .ok (.putfield 9, 3) := by decide +kernel
theorem dX8_init_13 : decode cX8_init 13 = .ok (.return_, 1) := by decide +kernel
theorem dX8_put_0 : decode cX8_put 0 = .ok (.bipush 24, 2) := by decide +kernel
theorem dX8_put_2 : decode cX8_put 2 = .ok (.istore_n 2, 1) := by decide +kernel
theorem dX8_put_3 : decode cX8_put 3 = .ok (.iload_n 2, 1) := by decide +kernel
theorem dX8_put_4 : decode cX8_put 4 = .ok (.ifCond .lt 45, 3) := by decide +kernel
theorem dX8_put_7 : decode cX8_put 7 = .ok (.aload_n 0, 1) := by decide +kernel
theorem dX8_put_8 : decode cX8_put 8 = .ok (.getfield 15, 3) := by decide +kernel
theorem dX8_put_11 : decode cX8_put 11 = .ok (.sipush 400, 3) := by decide +kernel
theorem dX8_put_14 : decode cX8_put 14 = .ok (.if_icmp .ge 35, 3) := by decide +kernel
theorem dX8_put_17 : decode cX8_put 17 = .ok (.aload_n 0, 1) := by decide +kernel
theorem dX8_put_18 : decode cX8_put 18 = .ok (.getfield 9, 3) := by decide +kernel
theorem dX8_put_21 : decode cX8_put 21 = .ok (.aload_n 0, 1) := by decide +kernel
theorem dX8_put_22 : decode cX8_put 22 = .ok (.getfield 15, 3) := by decide +kernel
theorem dX8_put_25 : decode cX8_put 25 = .ok (.iload_n 1, 1) := by decide +kernel
theorem dX8_put_26 : decode cX8_put 26 = .ok (.iload_n 2, 1) := by decide +kernel
theorem dX8_put_27 : decode cX8_put 27 = .ok (.ishr, 1) := by decide +kernel
theorem dX8_put_28 : decode cX8_put 28 = .ok (.sipush 255, 3) := by decide +kernel
theorem dX8_put_31 : decode cX8_put 31 = .ok (.iand, 1) := by decide +kernel
theorem dX8_put_32 : decode cX8_put 32 = .ok (.iastore, 1) := by decide +kernel
theorem dX8_put_33 : decode cX8_put 33 = .ok (.aload_n 0, 1) := by decide +kernel
theorem dX8_put_34 : decode cX8_put 34 = .ok (.dup, 1) := by decide +kernel
theorem dX8_put_35 : decode cX8_put 35 = .ok (.getfield 15, 3) := by decide +kernel
theorem dX8_put_38 : decode cX8_put 38 = .ok (.iconst 1, 1) := by decide +kernel
theorem dX8_put_39 : decode cX8_put 39 = .ok (.iadd, 1) := by decide +kernel
theorem dX8_put_40 : decode cX8_put 40 = .ok (.putfield 15, 3) := by decide +kernel
theorem dX8_put_43 : decode cX8_put 43 = .ok (.iinc 2 (-8), 3) := by decide +kernel
theorem dX8_put_46 : decode cX8_put 46 = .ok (.goto (-43), 3) := by decide +kernel
theorem dX8_put_49 : decode cX8_put 49 = .ok (.return_, 1) := by decide +kernel
theorem dX8_byteAt_0 : decode cX8_byteAt 0 = .ok (.iload_n 1, 1) := by decide +kernel
theorem dX8_byteAt_1 : decode cX8_byteAt 1 = .ok (.ifCond .lt 19, 3) := by decide +kernel
theorem dX8_byteAt_4 : decode cX8_byteAt 4 = .ok (.iload_n 1, 1) := by decide +kernel
theorem dX8_byteAt_5 : decode cX8_byteAt 5 = .ok (.sipush 400, 3) := by decide +kernel
theorem dX8_byteAt_8 : decode cX8_byteAt 8 = .ok (.if_icmp .ge 12, 3) := by decide +kernel
theorem dX8_byteAt_11 : decode cX8_byteAt 11 = .ok (.aload_n 0, 1) := by decide +kernel
theorem dX8_byteAt_12 : decode cX8_byteAt 12 = .ok (.getfield 9, 3) := by decide +kernel
theorem dX8_byteAt_15 : decode cX8_byteAt 15 = .ok (.iload_n 1, 1) := by decide +kernel
theorem dX8_byteAt_16 : decode cX8_byteAt 16 = .ok (.iaload, 1) := by decide +kernel
theorem dX8_byteAt_17 : decode cX8_byteAt 17 = .ok (.goto 4, 3) := by decide +kernel
theorem dX8_byteAt_20 : decode cX8_byteAt 20 = .ok (.iconst 0, 1) := by decide +kernel
theorem dX8_byteAt_21 : decode cX8_byteAt 21 = .ok (.ireturn, 1) := by decide +kernel
theorem dX8_taken_0 : decode cX8_taken 0 = .ok (.aload_n 0, 1) := by decide +kernel
theorem dX8_taken_1 : decode cX8_taken 1 = .ok (.getfield 15, 3) := by decide +kernel
theorem dX8_taken_4 : decode cX8_taken 4 = .ok (.istore_n 1, 1) := by decide +kernel
theorem dX8_taken_5 : decode cX8_taken 5 = .ok (.aload_n 0, 1) := by decide +kernel
theorem dX8_taken_6 : decode cX8_taken 6 = .ok (.iconst 0, 1) := by decide +kernel
theorem dX8_taken_7 : decode cX8_taken 7 = .ok (.putfield 15, 3) := by decide +kernel
theorem dX8_taken_10 : decode cX8_taken 10 = .ok (.iload_n 1, 1) := by decide +kernel
theorem dX8_taken_11 : decode cX8_taken 11 = .ok (.ireturn, 1) := by decide +kernel
theorem dX9_init_0 : decode cX9_init 0 = .ok (.aload_n 0, 1) := by decide +kernel
theorem dX9_init_1 : decode cX9_init 1 = .ok (.invokespecial 3, 3) := by decide +kernel
theorem dX9_init_4 : decode cX9_init 4 = .ok (.aload_n 0, 1) := by decide +kernel
theorem dX9_init_5 : decode cX9_init 5 = .ok (.iload_n 1, 1) := by decide +kernel
theorem dX9_init_6 : decode cX9_init 6 = .ok (.iconst 5, 1) := by decide +kernel
theorem dX9_init_7 : decode cX9_init 7 = .ok (.imul, 1) := by decide +kernel
theorem dX9_init_8 : decode cX9_init 8 = .ok (.newarray .int, 2) := by decide +kernel
theorem dX9_init_10 : decode cX9_init 10 = .ok (.putfield 11, 3) := by decide +kernel
theorem dX9_init_13 : decode cX9_init 13 = .ok (.aload_n 0, 1) := by decide +kernel
theorem dX9_init_14 : decode cX9_init 14 = .ok (.iload_n 2, 1) := by decide +kernel
theorem dX9_init_15 : decode cX9_init 15 = .ok (.newarray .int, 2) := by decide +kernel
theorem dX9_init_17 : decode cX9_init 17 = .ok (.putfield 15, 3) := by decide +kernel
theorem dX9_init_20 : decode cX9_init 20 = .ok (.return_, 1) := by decide +kernel
theorem dX9_packed_0 : decode cX9_packed 0 = .ok (.new 9, 3) := by decide +kernel
theorem dX9_packed_3 : decode cX9_packed 3 = .ok (.dup, 1) := by decide +kernel
theorem dX9_packed_4 : decode cX9_packed 4 = .ok (.aload_n 0, 1) := by decide +kernel
theorem dX9_packed_5 : decode cX9_packed 5 = .ok (.getfield 18, 3) := by decide +kernel
theorem dX9_packed_8 : decode cX9_packed 8 = .ok (.aload_n 0, 1) := by decide +kernel
theorem dX9_packed_9 : decode cX9_packed 9 = .ok (.getfield 22, 3) := by decide +kernel
theorem dX9_packed_12 : decode cX9_packed 12 = .ok (.invokespecial 25, 3) := by decide +kernel
theorem dX9_packed_15 : decode cX9_packed 15 = .ok (.astore_n 1, 1) := by decide +kernel
theorem dX9_packed_16 : decode cX9_packed 16 = .ok (.aload_n 1, 1) := by decide +kernel
theorem dX9_packed_17 : decode cX9_packed 17 = .ok (.aload_n 0, 1) := by decide +kernel
theorem dX9_packed_18 : decode cX9_packed 18 = .ok (.getfield 18, 3) := by decide +kernel
theorem dX9_packed_21 : decode cX9_packed 21 = .ok (.putfield 18, 3) := by decide +kernel
theorem dX9_packed_24 : decode cX9_packed 24 = .ok (.aload_n 1, 1) := by decide +kernel
theorem dX9_packed_25 : decode cX9_packed 25 = .ok (.aload_n 0, 1) := by decide +kernel
theorem dX9_packed_26 : decode cX9_packed 26 = .ok (.getfield 22, 3) := by decide +kernel
theorem dX9_packed_29 : decode cX9_packed 29 = .ok (.putfield 22, 3) := by decide +kernel
theorem dX9_packed_32 : decode cX9_packed 32 = .ok (.aload_n 0, 1) := by decide +kernel
theorem dX9_packed_33 : decode cX9_packed 33 = .ok (.getfield 11, 3) := by decide +kernel
theorem dX9_packed_36 : decode cX9_packed 36 = .ok (.iconst 0, 1) := by decide +kernel
theorem dX9_packed_37 : decode cX9_packed 37 = .ok (.aload_n 1, 1) := by decide +kernel
theorem dX9_packed_38 : decode cX9_packed 38 = .ok (.getfield 11, 3) := by decide +kernel
theorem dX9_packed_41 : decode cX9_packed 41 = .ok (.iconst 0, 1) := by decide +kernel
theorem dX9_packed_42 : decode cX9_packed 42 = .ok (.aload_n 0, 1) := by decide +kernel
theorem dX9_packed_43 : decode cX9_packed 43 = .ok (.getfield 18, 3) := by decide +kernel
theorem dX9_packed_46 : decode cX9_packed 46 = .ok (.iconst 5, 1) := by decide +kernel
theorem dX9_packed_47 : decode cX9_packed 47 = .ok (.imul, 1) := by decide +kernel
theorem dX9_packed_48 : decode cX9_packed 48 = .ok (.invokestatic 28, 3) := by decide +kernel
theorem dX9_packed_51 : decode cX9_packed 51 = .ok (.aload_n 0, 1) := by decide +kernel
theorem dX9_packed_52 : decode cX9_packed 52 = .ok (.getfield 15, 3) := by decide +kernel
theorem dX9_packed_55 : decode cX9_packed 55 = .ok (.iconst 0, 1) := by decide +kernel
theorem dX9_packed_56 : decode cX9_packed 56 = .ok (.aload_n 1, 1) := by decide +kernel
theorem dX9_packed_57 : decode cX9_packed 57 = .ok (.getfield 15, 3) := by decide +kernel
theorem dX9_packed_60 : decode cX9_packed 60 = .ok (.iconst 0, 1) := by decide +kernel
theorem dX9_packed_61 : decode cX9_packed 61 = .ok (.aload_n 0, 1) := by decide +kernel
theorem dX9_packed_62 : decode cX9_packed 62 = .ok (.getfield 22, 3) := by decide +kernel
theorem dX9_packed_65 : decode cX9_packed 65 = .ok (.invokestatic 28, 3) := by decide +kernel
theorem dX9_packed_68 : decode cX9_packed 68 = .ok (.aload_n 1, 1) := by decide +kernel
theorem dX9_packed_69 : decode cX9_packed 69 = .ok (.areturn, 1) := by decide +kernel
theorem dX9_clear_0 : decode cX9_clear 0 = .ok (.aload_n 0, 1) := by decide +kernel
theorem dX9_clear_1 : decode cX9_clear 1 = .ok (.iconst 0, 1) := by decide +kernel
theorem dX9_clear_2 : decode cX9_clear 2 = .ok (.putfield 18, 3) := by decide +kernel
theorem dX9_clear_5 : decode cX9_clear 5 = .ok (.aload_n 0, 1) := by decide +kernel
theorem dX9_clear_6 : decode cX9_clear 6 = .ok (.iconst 0, 1) := by decide +kernel
theorem dX9_clear_7 : decode cX9_clear 7 = .ok (.putfield 22, 3) := by decide +kernel
theorem dX9_clear_10 : decode cX9_clear 10 = .ok (.return_, 1) := by decide +kernel
theorem dX9_open_0 : decode cX9_open 0 = .ok (.aload_n 0, 1) := by decide +kernel
theorem dX9_open_1 : decode cX9_open 1 = .ok (.getfield 18, 3) := by decide +kernel
theorem dX9_open_4 : decode cX9_open 4 = .ok (.iconst 1, 1) := by decide +kernel
theorem dX9_open_5 : decode cX9_open 5 = .ok (.iadd, 1) := by decide +kernel
theorem dX9_open_6 : decode cX9_open 6 = .ok (.iconst 5, 1) := by decide +kernel
theorem dX9_open_7 : decode cX9_open 7 = .ok (.imul, 1) := by decide +kernel
theorem dX9_open_8 : decode cX9_open 8 = .ok (.aload_n 0, 1) := by decide +kernel
theorem dX9_open_9 : decode cX9_open 9 = .ok (.getfield 11, 3) := by decide +kernel
theorem dX9_open_12 : decode cX9_open 12 = .ok (.arraylength, 1) := by decide +kernel
theorem dX9_open_13 : decode cX9_open 13 = .ok (.if_icmp .le 4, 3) := by decide +kernel
theorem dX9_open_16 : decode cX9_open 16 = .ok (.return_, 1) := by decide +kernel
theorem dX9_open_17 : decode cX9_open 17 = .ok (.aload_n 0, 1) := by decide +kernel
theorem dX9_open_18 : decode cX9_open 18 = .ok (.dup, 1) := by decide +kernel
theorem dX9_open_19 : decode cX9_open 19 = .ok (.getfield 18, 3) := by decide +kernel
theorem dX9_open_22 : decode cX9_open 22 = .ok (.iconst 1, 1) := by decide +kernel
theorem dX9_open_23 : decode cX9_open 23 = .ok (.iadd, 1) := by decide +kernel
theorem dX9_open_24 : decode cX9_open 24 = .ok (.putfield 18, 3) := by decide +kernel
theorem dX9_open_27 : decode cX9_open 27 = .ok (.aload_n 0, 1) := by decide +kernel
theorem dX9_open_28 : decode cX9_open 28 = .ok (.iconst 0, 1) := by decide +kernel
theorem dX9_open_29 : decode cX9_open 29 = .ok (.iload_n 1, 1) := by decide +kernel
theorem dX9_open_30 : decode cX9_open 30 = .ok (.invokevirtual 34, 3) := by decide +kernel
theorem dX9_open_33 : decode cX9_open 33 = .ok (.aload_n 0, 1) := by decide +kernel
theorem dX9_open_34 : decode cX9_open 34 = .ok (.iconst 1, 1) := by decide +kernel
theorem dX9_open_35 : decode cX9_open 35 = .ok (.iconst (-1), 1) := by decide +kernel
theorem dX9_open_36 : decode cX9_open 36 = .ok (.invokevirtual 34, 3) := by decide +kernel
theorem dX9_open_39 : decode cX9_open 39 = .ok (.aload_n 0, 1) := by decide +kernel
theorem dX9_open_40 : decode cX9_open 40 = .ok (.iconst 2, 1) := by decide +kernel
theorem dX9_open_41 : decode cX9_open 41 = .ok (.iconst (-1), 1) := by decide +kernel
theorem dX9_open_42 : decode cX9_open 42 = .ok (.invokevirtual 34, 3) := by decide +kernel
theorem dX9_open_45 : decode cX9_open 45 = .ok (.aload_n 0, 1) := by decide +kernel
theorem dX9_open_46 : decode cX9_open 46 = .ok (.iconst 3, 1) := by decide +kernel
theorem dX9_open_47 : decode cX9_open 47 = .ok (.iconst (-1), 1) := by decide +kernel
theorem dX9_open_48 : decode cX9_open 48 = .ok (.invokevirtual 34, 3) := by decide +kernel
theorem dX9_open_51 : decode cX9_open 51 = .ok (.aload_n 0, 1) := by decide +kernel
theorem dX9_open_52 : decode cX9_open 52 = .ok (.iconst 4, 1) := by decide +kernel
theorem dX9_open_53 : decode cX9_open 53 = .ok (.iconst 1, 1) := by decide +kernel
theorem dX9_open_54 : decode cX9_open 54 = .ok (.invokevirtual 34, 3) := by decide +kernel
theorem dX9_open_57 : decode cX9_open 57 = .ok (.return_, 1) := by decide +kernel
theorem dX9_set_0 : decode cX9_set 0 = .ok (.aload_n 0, 1) := by decide +kernel
theorem dX9_set_1 : decode cX9_set 1 = .ok (.getfield 18, 3) := by decide +kernel
theorem dX9_set_4 : decode cX9_set 4 = .ok (.iconst 1, 1) := by decide +kernel
theorem dX9_set_5 : decode cX9_set 5 = .ok (.isub, 1) := by decide +kernel
theorem dX9_set_6 : decode cX9_set 6 = .ok (.iconst 5, 1) := by decide +kernel
theorem dX9_set_7 : decode cX9_set 7 = .ok (.imul, 1) := by decide +kernel
theorem dX9_set_8 : decode cX9_set 8 = .ok (.iload_n 1, 1) := by decide +kernel
theorem dX9_set_9 : decode cX9_set 9 = .ok (.iadd, 1) := by decide +kernel
theorem dX9_set_10 : decode cX9_set 10 = .ok (.istore_n 3, 1) := by decide +kernel
theorem dX9_set_11 : decode cX9_set 11 = .ok (.iload_n 3, 1) := by decide +kernel
theorem dX9_set_12 : decode cX9_set 12 = .ok (.ifCond .lt 19, 3) := by decide +kernel
theorem dX9_set_15 : decode cX9_set 15 = .ok (.iload_n 3, 1) := by decide +kernel
theorem dX9_set_16 : decode cX9_set 16 = .ok (.aload_n 0, 1) := by decide +kernel
theorem dX9_set_17 : decode cX9_set 17 = .ok (.getfield 11, 3) := by decide +kernel
theorem dX9_set_20 : decode cX9_set 20 = .ok (.arraylength, 1) := by decide +kernel
theorem dX9_set_21 : decode cX9_set 21 = .ok (.if_icmp .ge 10, 3) := by decide +kernel
theorem dX9_set_24 : decode cX9_set 24 = .ok (.aload_n 0, 1) := by decide +kernel
theorem dX9_set_25 : decode cX9_set 25 = .ok (.getfield 11, 3) := by decide +kernel
theorem dX9_set_28 : decode cX9_set 28 = .ok (.iload_n 3, 1) := by decide +kernel
theorem dX9_set_29 : decode cX9_set 29 = .ok (.iload_n 2, 1) := by decide +kernel
theorem dX9_set_30 : decode cX9_set 30 = .ok (.iastore, 1) := by decide +kernel
theorem dX9_set_31 : decode cX9_set 31 = .ok (.return_, 1) := by decide +kernel
theorem dX9_get_0 : decode cX9_get 0 = .ok (.iload_n 1, 1) := by decide +kernel
theorem dX9_get_1 : decode cX9_get 1 = .ok (.iconst 5, 1) := by decide +kernel
theorem dX9_get_2 : decode cX9_get 2 = .ok (.imul, 1) := by decide +kernel
theorem dX9_get_3 : decode cX9_get 3 = .ok (.iload_n 2, 1) := by decide +kernel
theorem dX9_get_4 : decode cX9_get 4 = .ok (.iadd, 1) := by decide +kernel
theorem dX9_get_5 : decode cX9_get 5 = .ok (.istore_n 3, 1) := by decide +kernel
theorem dX9_get_6 : decode cX9_get 6 = .ok (.iload_n 3, 1) := by decide +kernel
theorem dX9_get_7 : decode cX9_get 7 = .ok (.ifCond .lt 21, 3) := by decide +kernel
theorem dX9_get_10 : decode cX9_get 10 = .ok (.iload_n 3, 1) := by decide +kernel
theorem dX9_get_11 : decode cX9_get 11 = .ok (.aload_n 0, 1) := by decide +kernel
theorem dX9_get_12 : decode cX9_get 12 = .ok (.getfield 11, 3) := by decide +kernel
theorem dX9_get_15 : decode cX9_get 15 = .ok (.arraylength, 1) := by decide +kernel
theorem dX9_get_16 : decode cX9_get 16 = .ok (.if_icmp .ge 12, 3) := by decide +kernel
theorem dX9_get_19 : decode cX9_get 19 = .ok (.aload_n 0, 1) := by decide +kernel
theorem dX9_get_20 : decode cX9_get 20 = .ok (.getfield 11, 3) := by decide +kernel
theorem dX9_get_23 : decode cX9_get 23 = .ok (.iload_n 3, 1) := by decide +kernel
theorem dX9_get_24 : decode cX9_get 24 = .ok (.iaload, 1) := by decide +kernel
theorem dX9_get_25 : decode cX9_get 25 = .ok (.goto 4, 3) := by decide +kernel
theorem dX9_get_28 : decode cX9_get 28 = .ok (.iconst (-1), 1) := by decide +kernel
theorem dX9_get_29 : decode cX9_get 29 = .ok (.ireturn, 1) := by decide +kernel
theorem dX9_emit_0 : decode cX9_emit 0 = .ok (.aload_n 0, 1) := by decide +kernel
theorem dX9_emit_1 : decode cX9_emit 1 = .ok (.getfield 22, 3) := by decide +kernel
theorem dX9_emit_4 : decode cX9_emit 4 = .ok (.aload_n 0, 1) := by decide +kernel
theorem dX9_emit_5 : decode cX9_emit 5 = .ok (.getfield 15, 3) := by decide +kernel
theorem dX9_emit_8 : decode cX9_emit 8 = .ok (.arraylength, 1) := by decide +kernel
theorem dX9_emit_9 : decode cX9_emit 9 = .ok (.if_icmp .ge 28, 3) := by decide +kernel
theorem dX9_emit_12 : decode cX9_emit 12 = .ok (.aload_n 0, 1) := by decide +kernel
theorem dX9_emit_13 : decode cX9_emit 13 = .ok (.getfield 15, 3) := by decide +kernel
theorem dX9_emit_16 : decode cX9_emit 16 = .ok (.aload_n 0, 1) := by decide +kernel
theorem dX9_emit_17 : decode cX9_emit 17 = .ok (.getfield 22, 3) := by decide +kernel
theorem dX9_emit_20 : decode cX9_emit 20 = .ok (.iload_n 1, 1) := by decide +kernel
theorem dX9_emit_21 : decode cX9_emit 21 = .ok (.bipush 16, 2) := by decide +kernel
theorem dX9_emit_23 : decode cX9_emit 23 = .ok (.iload_n 2, 1) := by decide +kernel
theorem dX9_emit_24 : decode cX9_emit 24 = .ok (.imul, 1) := by decide +kernel
theorem dX9_emit_25 : decode cX9_emit 25 = .ok (.iadd, 1) := by decide +kernel
theorem dX9_emit_26 : decode cX9_emit 26 = .ok (.iastore, 1) := by decide +kernel
theorem dX9_emit_27 : decode cX9_emit 27 = .ok (.aload_n 0, 1) := by decide +kernel
theorem dX9_emit_28 : decode cX9_emit 28 = .ok (.dup, 1) := by decide +kernel
theorem dX9_emit_29 : decode cX9_emit 29 = .ok (.getfield 22, 3) := by decide +kernel
theorem dX9_emit_32 : decode cX9_emit 32 = .ok (.iconst 1, 1) := by decide +kernel
theorem dX9_emit_33 : decode cX9_emit 33 = .ok (.iadd, 1) := by decide +kernel
theorem dX9_emit_34 : decode cX9_emit 34 = .ok (.putfield 22, 3) := by decide +kernel
theorem dX9_emit_37 : decode cX9_emit 37 = .ok (.return_, 1) := by decide +kernel
theorem dX9_aim_0 : decode cX9_aim 0 = .ok (.iload_n 1, 1) := by decide +kernel
theorem dX9_aim_1 : decode cX9_aim 1 = .ok (.ifCond .lt 26, 3) := by decide +kernel
theorem dX9_aim_4 : decode cX9_aim 4 = .ok (.iload_n 1, 1) := by decide +kernel
theorem dX9_aim_5 : decode cX9_aim 5 = .ok (.aload_n 0, 1) := by decide +kernel
theorem dX9_aim_6 : decode cX9_aim 6 = .ok (.getfield 22, 3) := by decide +kernel
theorem dX9_aim_9 : decode cX9_aim 9 = .ok (.if_icmp .ge 18, 3) := by decide +kernel
theorem dX9_aim_12 : decode cX9_aim 12 = .ok (.aload_n 0, 1) := by decide +kernel
theorem dX9_aim_13 : decode cX9_aim 13 = .ok (.getfield 15, 3) := by decide +kernel
theorem dX9_aim_16 : decode cX9_aim 16 = .ok (.iload_n 1, 1) := by decide +kernel
theorem dX9_aim_17 : decode cX9_aim 17 = .ok (.iload_n 2, 1) := by decide +kernel
theorem dX9_aim_18 : decode cX9_aim 18 = .ok (.bipush 16, 2) := by decide +kernel
theorem dX9_aim_20 : decode cX9_aim 20 = .ok (.aload_n 0, 1) := by decide +kernel
theorem dX9_aim_21 : decode cX9_aim 21 = .ok (.getfield 22, 3) := by decide +kernel
theorem dX9_aim_24 : decode cX9_aim 24 = .ok (.imul, 1) := by decide +kernel
theorem dX9_aim_25 : decode cX9_aim 25 = .ok (.iadd, 1) := by decide +kernel
theorem dX9_aim_26 : decode cX9_aim 26 = .ok (.iastore, 1) := by decide +kernel
theorem dX9_aim_27 : decode cX9_aim 27 = .ok (.return_, 1) := by decide +kernel
