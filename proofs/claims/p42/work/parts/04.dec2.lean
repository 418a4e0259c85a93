theorem dX6_countLengthened_71 : decode cX6_countLengthened 71 = .ok (.invokevirtual 338, 3) := by decide +kernel
theorem dX6_countLengthened_74 : decode cX6_countLengthened 74 = .ok (.iinc 3 1, 3) := by decide +kernel
theorem dX6_countLengthened_77 : decode cX6_countLengthened 77 = .ok (.goto (-51), 3) := by decide +kernel
theorem dX6_countLengthened_80 : decode cX6_countLengthened 80 = .ok (.iload_n 2, 1) := by decide +kernel
theorem dX6_countLengthened_81 : decode cX6_countLengthened 81 = .ok (.ireturn, 1) := by decide +kernel
theorem dX6_countJudged_0 : decode cX6_countJudged 0 = .ok (.aload_n 0, 1) := by decide +kernel
theorem dX6_countJudged_1 : decode cX6_countJudged 1 = .ok (.invokevirtual 286, 3) := by decide +kernel
theorem dX6_countJudged_4 : decode cX6_countJudged 4 = .ok (.astore_n 1, 1) := by decide +kernel
theorem dX6_countJudged_5 : decode cX6_countJudged 5 = .ok (.aload_n 1, 1) := by decide +kernel
theorem dX6_countJudged_6 : decode cX6_countJudged 6 = .ok (.ifnonnull 5, 3) := by decide +kernel
theorem dX6_countJudged_9 : decode cX6_countJudged 9 = .ok (.iconst 0, 1) := by decide +kernel
theorem dX6_countJudged_10 : decode cX6_countJudged 10 = .ok (.ireturn, 1) := by decide +kernel
theorem dX6_countJudged_11 : decode cX6_countJudged 11 = .ok (.aload_n 0, 1) := by decide +kernel
theorem dX6_countJudged_12 : decode cX6_countJudged 12 = .ok (.invokevirtual 341, 3) := by decide +kernel
theorem dX6_countJudged_15 : decode cX6_countJudged 15 = .ok (.ifCond .eq 7, 3) := by decide +kernel
theorem dX6_countJudged_18 : decode cX6_countJudged 18 = .ok (.iconst 1, 1) := by decide +kernel
theorem dX6_countJudged_19 : decode cX6_countJudged 19 = .ok (.goto 4, 3) := by decide +kernel
theorem dX6_countJudged_22 : decode cX6_countJudged 22 = .ok (.iconst 0, 1) := by decide +kernel
theorem dX6_countJudged_23 : decode cX6_countJudged 23 = .ok (.istore_n 2, 1) := by decide +kernel
theorem dX6_countJudged_24 : decode cX6_countJudged 24 = .ok (.iconst 0, 1) := by decide +kernel
theorem dX6_countJudged_25 : decode cX6_countJudged 25 = .ok (.istore_n 3, 1) := by decide +kernel
theorem dX6_countJudged_26 : decode cX6_countJudged 26 = .ok (.iload_n 3, 1) := by decide +kernel
theorem dX6_countJudged_27 : decode cX6_countJudged 27 = .ok (.iconst 3, 1) := by decide +kernel
theorem dX6_countJudged_28 : decode cX6_countJudged 28 = .ok (.if_icmp .ge 50, 3) := by decide +kernel
theorem dX6_countJudged_31 : decode cX6_countJudged 31 = .ok (.aload_n 1, 1) := by decide +kernel
theorem dX6_countJudged_32 : decode cX6_countJudged 32 = .ok (.iload_n 3, 1) := by decide +kernel
theorem dX6_countJudged_33 : decode cX6_countJudged 33 = .ok (.invokevirtual 281, 3) := by decide +kernel
theorem dX6_countJudged_36 : decode cX6_countJudged 36 = .ok (.astore 4, 2) := by decide +kernel
theorem dX6_countJudged_38 : decode cX6_countJudged 38 = .ok (.aload 4, 2) := by decide +kernel
theorem dX6_countJudged_40 : decode cX6_countJudged 40 = .ok (.ifnull 32, 3) := by decide +kernel
theorem dX6_countJudged_43 : decode cX6_countJudged 43 = .ok (.aload_n 0, 1) := by decide +kernel
theorem dX6_countJudged_44 : decode cX6_countJudged 44 = .ok (.aload 4, 2) := by decide +kernel
theorem dX6_countJudged_46 : decode cX6_countJudged 46 = .ok (.invokevirtual 344, 3) := by decide +kernel
theorem dX6_countJudged_49 : decode cX6_countJudged 49 = .ok (.ifCond .ne 23, 3) := by decide +kernel
theorem dX6_countJudged_52 : decode cX6_countJudged 52 = .ok (.aload_n 0, 1) := by decide +kernel
theorem dX6_countJudged_53 : decode cX6_countJudged 53 = .ok (.aload 4, 2) := by decide +kernel
theorem dX6_countJudged_55 : decode cX6_countJudged 55 = .ok (.invokevirtual 221, 3) := by decide +kernel
theorem dX6_countJudged_58 : decode cX6_countJudged 58 = .ok (.ifCond .eq 14, 3) := by decide +kernel
theorem dX6_countJudged_61 : decode cX6_countJudged 61 = .ok (.iload_n 2, 1) := by decide +kernel
theorem dX6_countJudged_62 : decode cX6_countJudged 62 = .ok (.aload_n 0, 1) := by decide +kernel
theorem dX6_countJudged_63 : decode cX6_countJudged 63 = .ok (.invokestatic 202, 3) := by decide +kernel
theorem dX6_countJudged_66 : decode cX6_countJudged 66 = .ok (.iadd, 1) := by decide +kernel
theorem dX6_countJudged_67 : decode cX6_countJudged 67 = .ok (.istore_n 2, 1) := by decide +kernel
theorem dX6_countJudged_68 : decode cX6_countJudged 68 = .ok (.aload_n 0, 1) := by decide +kernel
theorem dX6_countJudged_69 : decode cX6_countJudged 69 = .ok (.invokevirtual 338, 3) := by decide +kernel
theorem dX6_countJudged_72 : decode cX6_countJudged 72 = .ok (.iinc 3 1, 3) := by decide +kernel
theorem dX6_countJudged_75 : decode cX6_countJudged 75 = .ok (.goto (-49), 3) := by decide +kernel
theorem dX6_countJudged_78 : decode cX6_countJudged 78 = .ok (.iload_n 2, 1) := by decide +kernel
theorem dX6_countJudged_79 : decode cX6_countJudged 79 = .ok (.ireturn, 1) := by decide +kernel
theorem dJx00060_init_a7421_0 : decode cJx00060_init_a7421 0 = .ok (.aload_n 0, 1) := by decide +kernel
theorem dJx00060_init_a7421_1 : decode cJx00060_init_a7421 1 = .ok (.aload_n 1, 1) := by decide +kernel
theorem dJx00060_init_a7421_2 : decode cJx00060_init_a7421 2 = .ok (.invokespecial 7, 3) := by decide +kernel
theorem dJx00060_init_a7421_5 : decode cJx00060_init_a7421 5 = .ok (.return_, 1) := by decide +kernel
theorem dJ9_max_7cf53_0 : decode cJ9_max_7cf53 0 = .ok (.iload_n 0, 1) := by decide +kernel
theorem dJ9_max_7cf53_1 : decode cJ9_max_7cf53 1 = .ok (.iload_n 1, 1) := by decide +kernel
theorem dJ9_max_7cf53_2 : decode cJ9_max_7cf53 2 = .ok (.if_icmp .lt 7, 3) := by decide +kernel
theorem dJ9_max_7cf53_5 : decode cJ9_max_7cf53 5 = .ok (.iload_n 0, 1) := by decide +kernel
theorem dJ9_max_7cf53_6 : decode cJ9_max_7cf53 6 = .ok (.goto 4, 3) := by decide +kernel
theorem dJ9_max_7cf53_9 : decode cJ9_max_7cf53 9 = .ok (.iload_n 1, 1) := by decide +kernel
theorem dJ9_max_7cf53_10 : decode cJ9_max_7cf53 10 = .ok (.ireturn, 1) := by decide +kernel
