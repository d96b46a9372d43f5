theorem dX10_termCanBe_39 : decode cX10_termCanBe 39 = .ok (.goto 4, 3) := by decide +kernel
theorem dX10_termCanBe_42 : decode cX10_termCanBe 42 = .ok (.iconst 0, 1) := by decide +kernel
theorem dX10_termCanBe_43 : decode cX10_termCanBe 43 = .ok (.ireturn, 1) := by decide +kernel
theorem dX10_termCanBe_44 : decode cX10_termCanBe 44 = .ok (.iload_n 2, 1) := by decide +kernel
theorem dX10_termCanBe_45 : decode cX10_termCanBe 45 = .ok (.iconst 1, 1) := by decide +kernel
theorem dX10_termCanBe_46 : decode cX10_termCanBe 46 = .ok (.if_icmp .lt 25, 3) := by decide +kernel
theorem dX10_termCanBe_49 : decode cX10_termCanBe 49 = .ok (.iload_n 2, 1) := by decide +kernel
theorem dX10_termCanBe_50 : decode cX10_termCanBe 50 = .ok (.sipush 999, 3) := by decide +kernel
theorem dX10_termCanBe_53 : decode cX10_termCanBe 53 = .ok (.if_icmp .gt 18, 3) := by decide +kernel
theorem dX10_termCanBe_56 : decode cX10_termCanBe 56 = .ok (.iload_n 2, 1) := by decide +kernel
theorem dX10_termCanBe_57 : decode cX10_termCanBe 57 = .ok (.aload_n 0, 1) := by decide +kernel
theorem dX10_termCanBe_58 : decode cX10_termCanBe 58 = .ok (.getfield 10, 3) := by decide +kernel
theorem dX10_termCanBe_61 : decode cX10_termCanBe 61 = .ok (.getfield 293, 3) := by decide +kernel
theorem dX10_termCanBe_64 : decode cX10_termCanBe 64 = .ok (.if_icmp .lt 7, 3) := by decide +kernel
theorem dX10_termCanBe_67 : decode cX10_termCanBe 67 = .ok (.iconst 1, 1) := by decide +kernel
theorem dX10_termCanBe_68 : decode cX10_termCanBe 68 = .ok (.goto 4, 3) := by decide +kernel
theorem dX10_termCanBe_71 : decode cX10_termCanBe 71 = .ok (.iconst 0, 1) := by decide +kernel
theorem dX10_termCanBe_72 : decode cX10_termCanBe 72 = .ok (.ireturn, 1) := by decide +kernel
theorem dX10_termCanBe_73 : decode cX10_termCanBe 73 = .ok (.iload_n 2, 1) := by decide +kernel
theorem dX10_termCanBe_74 : decode cX10_termCanBe 74 = .ok (.ifCond .lt 13, 3) := by decide +kernel
theorem dX10_termCanBe_77 : decode cX10_termCanBe 77 = .ok (.iload_n 2, 1) := by decide +kernel
theorem dX10_termCanBe_78 : decode cX10_termCanBe 78 = .ok (.bipush 9, 2) := by decide +kernel
theorem dX10_termCanBe_80 : decode cX10_termCanBe 80 = .ok (.if_icmp .gt 7, 3) := by decide +kernel
theorem dX10_termCanBe_83 : decode cX10_termCanBe 83 = .ok (.iconst 1, 1) := by decide +kernel
theorem dX10_termCanBe_84 : decode cX10_termCanBe 84 = .ok (.goto 4, 3) := by decide +kernel
theorem dX10_termCanBe_87 : decode cX10_termCanBe 87 = .ok (.iconst 0, 1) := by decide +kernel
theorem dX10_termCanBe_88 : decode cX10_termCanBe 88 = .ok (.ireturn, 1) := by decide +kernel
theorem dX10_termCanBe_89 : decode cX10_termCanBe 89 = .ok (.iconst 0, 1) := by decide +kernel
theorem dX10_termCanBe_90 : decode cX10_termCanBe 90 = .ok (.ireturn, 1) := by decide +kernel
theorem dX10_groundCame_0 : decode cX10_groundCame 0 = .ok (.aload_n 0, 1) := by decide +kernel
theorem dX10_groundCame_1 : decode cX10_groundCame 1 = .ok (.getfield 36, 3) := by decide +kernel
theorem dX10_groundCame_4 : decode cX10_groundCame 4 = .ok (.iload_n 1, 1) := by decide +kernel
theorem dX10_groundCame_5 : decode cX10_groundCame 5 = .ok (.invokevirtual 303, 3) := by decide +kernel
theorem dX10_groundCame_8 : decode cX10_groundCame 8 = .ok (.istore_n 2, 1) := by decide +kernel
theorem dX10_groundCame_9 : decode cX10_groundCame 9 = .ok (.aload_n 0, 1) := by decide +kernel
theorem dX10_groundCame_10 : decode cX10_groundCame 10 = .ok (.getfield 36, 3) := by decide +kernel
theorem dX10_groundCame_13 : decode cX10_groundCame 13 = .ok (.iload_n 1, 1) := by decide +kernel
theorem dX10_groundCame_14 : decode cX10_groundCame 14 = .ok (.iconst 1, 1) := by decide +kernel
theorem dX10_groundCame_15 : decode cX10_groundCame 15 = .ok (.iadd, 1) := by decide +kernel
theorem dX10_groundCame_16 : decode cX10_groundCame 16 = .ok (.invokevirtual 303, 3) := by decide +kernel
theorem dX10_groundCame_19 : decode cX10_groundCame 19 = .ok (.istore_n 3, 1) := by decide +kernel
theorem dX10_groundCame_20 : decode cX10_groundCame 20 = .ok (.aload_n 0, 1) := by decide +kernel
theorem dX10_groundCame_21 : decode cX10_groundCame 21 = .ok (.getfield 36, 3) := by decide +kernel
theorem dX10_groundCame_24 : decode cX10_groundCame 24 = .ok (.iload_n 1, 1) := by decide +kernel
theorem dX10_groundCame_25 : decode cX10_groundCame 25 = .ok (.iconst 2, 1) := by decide +kernel
theorem dX10_groundCame_26 : decode cX10_groundCame 26 = .ok (.iadd, 1) := by decide +kernel
theorem dX10_groundCame_27 : decode cX10_groundCame 27 = .ok (.invokevirtual 303, 3) := by decide +kernel
theorem dX10_groundCame_30 : decode cX10_groundCame 30 = .ok (.istore 4, 2) := by decide +kernel
theorem dX10_groundCame_32 : decode cX10_groundCame 32 = .ok (.aload_n 0, 1) := by decide +kernel
theorem dX10_groundCame_33 : decode cX10_groundCame 33 = .ok (.getfield 36, 3) := by decide +kernel
theorem dX10_groundCame_36 : decode cX10_groundCame 36 = .ok (.iload_n 1, 1) := by decide +kernel
theorem dX10_groundCame_37 : decode cX10_groundCame 37 = .ok (.iconst 3, 1) := by decide +kernel
theorem dX10_groundCame_38 : decode cX10_groundCame 38 = .ok (.iadd, 1) := by decide +kernel
theorem dX10_groundCame_39 : decode cX10_groundCame 39 = .ok (.invokevirtual 303, 3) := by decide +kernel
theorem dX10_groundCame_42 : decode cX10_groundCame 42 = .ok (.istore 5, 2) := by decide +kernel
theorem dX10_groundCame_44 : decode cX10_groundCame 44 = .ok (.aload_n 0, 1) := by decide +kernel
theorem dX10_groundCame_45 : decode cX10_groundCame 45 = .ok (.getfield 10, 3) := by decide +kernel
theorem dX10_groundCame_48 : decode cX10_groundCame 48 = .ok (.getfield 143, 3) := by decide +kernel
theorem dX10_groundCame_51 : decode cX10_groundCame 51 = .ok (.iconst 4, 1) := by decide +kernel
theorem dX10_groundCame_52 : decode cX10_groundCame 52 = .ok (.if_icmp .ge 15, 3) := by decide +kernel
theorem dX10_groundCame_55 : decode cX10_groundCame 55 = .ok (.iload_n 2, 1) := by decide +kernel
theorem dX10_groundCame_56 : decode cX10_groundCame 56 = .ok (.iload_n 3, 1) := by decide +kernel
theorem dX10_groundCame_57 : decode cX10_groundCame 57 = .ok (.iload 4, 2) := by decide +kernel
theorem dX10_groundCame_59 : decode cX10_groundCame 59 = .ok (.iload 5, 2) := by decide +kernel
theorem dX10_groundCame_61 : decode cX10_groundCame 61 = .ok (.invokestatic 139, 3) := by decide +kernel
theorem dX10_groundCame_64 : decode cX10_groundCame 64 = .ok (.ifCond .ne 5, 3) := by decide +kernel
theorem dX10_groundCame_67 : decode cX10_groundCame 67 = .ok (.iconst 0, 1) := by decide +kernel
theorem dX10_groundCame_68 : decode cX10_groundCame 68 = .ok (.ireturn, 1) := by decide +kernel
theorem dX10_groundCame_69 : decode cX10_groundCame 69 = .ok (.aload_n 0, 1) := by decide +kernel
theorem dX10_groundCame_70 : decode cX10_groundCame 70 = .ok (.getfield 10, 3) := by decide +kernel
theorem dX10_groundCame_73 : decode cX10_groundCame 73 = .ok (.iload_n 2, 1) := by decide +kernel
theorem dX10_groundCame_74 : decode cX10_groundCame 74 = .ok (.iload_n 3, 1) := by decide +kernel
theorem dX10_groundCame_75 : decode cX10_groundCame 75 = .ok (.iload 4, 2) := by decide +kernel
theorem dX10_groundCame_77 : decode cX10_groundCame 77 = .ok (.iload 5, 2) := by decide +kernel
theorem dX10_groundCame_79 : decode cX10_groundCame 79 = .ok (.invokevirtual 146, 3) := by decide +kernel
theorem dX10_groundCame_82 : decode cX10_groundCame 82 = .ok (.pop, 1) := by decide +kernel
theorem dX10_groundCame_83 : decode cX10_groundCame 83 = .ok (.iconst 1, 1) := by decide +kernel
theorem dX10_groundCame_84 : decode cX10_groundCame 84 = .ok (.ireturn, 1) := by decide +kernel
