theorem dX7_fitsNames_54 : decode cX7_fitsNames 54 = .ok (.aload_n 0, 1) := by decide +kernel
theorem dX7_fitsNames_55 : decode cX7_fitsNames 55 = .ok (.getfield 34, 3) := by decide +kernel
theorem dX7_fitsNames_58 : decode cX7_fitsNames 58 = .ok (.iload_n 3, 1) := by decide +kernel
theorem dX7_fitsNames_59 : decode cX7_fitsNames 59 = .ok (.iaload, 1) := by decide +kernel
theorem dX7_fitsNames_60 : decode cX7_fitsNames 60 = .ok (.ifCond .eq 24, 3) := by decide +kernel
theorem dX7_fitsNames_63 : decode cX7_fitsNames 63 = .ok (.aload_n 0, 1) := by decide +kernel
theorem dX7_fitsNames_64 : decode cX7_fitsNames 64 = .ok (.getfield 9, 3) := by decide +kernel
theorem dX7_fitsNames_67 : decode cX7_fitsNames 67 = .ok (.aload_n 1, 1) := by decide +kernel
theorem dX7_fitsNames_68 : decode cX7_fitsNames 68 = .ok (.iload 5, 2) := by decide +kernel
theorem dX7_fitsNames_70 : decode cX7_fitsNames 70 = .ok (.iaload, 1) := by decide +kernel
theorem dX7_fitsNames_71 : decode cX7_fitsNames 71 = .ok (.iaload, 1) := by decide +kernel
theorem dX7_fitsNames_72 : decode cX7_fitsNames 72 = .ok (.aload_n 0, 1) := by decide +kernel
theorem dX7_fitsNames_73 : decode cX7_fitsNames 73 = .ok (.getfield 34, 3) := by decide +kernel
theorem dX7_fitsNames_76 : decode cX7_fitsNames 76 = .ok (.iload_n 3, 1) := by decide +kernel
theorem dX7_fitsNames_77 : decode cX7_fitsNames 77 = .ok (.iaload, 1) := by decide +kernel
theorem dX7_fitsNames_78 : decode cX7_fitsNames 78 = .ok (.invokestatic 116, 3) := by decide +kernel
theorem dX7_fitsNames_81 : decode cX7_fitsNames 81 = .ok (.ifCond .ne 7, 3) := by decide +kernel
theorem dX7_fitsNames_84 : decode cX7_fitsNames 84 = .ok (.iconst 1, 1) := by decide +kernel
theorem dX7_fitsNames_85 : decode cX7_fitsNames 85 = .ok (.goto 4, 3) := by decide +kernel
theorem dX7_fitsNames_88 : decode cX7_fitsNames 88 = .ok (.iconst 0, 1) := by decide +kernel
theorem dX7_fitsNames_89 : decode cX7_fitsNames 89 = .ok (.iand, 1) := by decide +kernel
theorem dX7_fitsNames_90 : decode cX7_fitsNames 90 = .ok (.istore 4, 2) := by decide +kernel
theorem dX7_fitsNames_92 : decode cX7_fitsNames 92 = .ok (.iinc 5 1, 3) := by decide +kernel
theorem dX7_fitsNames_95 : decode cX7_fitsNames 95 = .ok (.goto (-89), 3) := by decide +kernel
theorem dX7_fitsNames_98 : decode cX7_fitsNames 98 = .ok (.iload 4, 2) := by decide +kernel
theorem dX7_fitsNames_100 : decode cX7_fitsNames 100 = .ok (.ireturn, 1) := by decide +kernel
theorem dX7_refusal_0 : decode cX7_refusal 0 = .ok (.iconst 0, 1) := by decide +kernel
theorem dX7_refusal_1 : decode cX7_refusal 1 = .ok (.istore 5, 2) := by decide +kernel
theorem dX7_refusal_3 : decode cX7_refusal 3 = .ok (.iload 5, 2) := by decide +kernel
theorem dX7_refusal_5 : decode cX7_refusal 5 = .ok (.iload_n 2, 1) := by decide +kernel
theorem dX7_refusal_6 : decode cX7_refusal 6 = .ok (.if_icmp .ge 20, 3) := by decide +kernel
theorem dX7_refusal_9 : decode cX7_refusal 9 = .ok (.aload_n 1, 1) := by decide +kernel
theorem dX7_refusal_10 : decode cX7_refusal 10 = .ok (.iload 5, 2) := by decide +kernel
theorem dX7_refusal_12 : decode cX7_refusal 12 = .ok (.iaload, 1) := by decide +kernel
theorem dX7_refusal_13 : decode cX7_refusal 13 = .ok (.iload_n 3, 1) := by decide +kernel
theorem dX7_refusal_14 : decode cX7_refusal 14 = .ok (.if_icmp .ne 6, 3) := by decide +kernel
theorem dX7_refusal_17 : decode cX7_refusal 17 = .ok (.bipush 120, 2) := by decide +kernel
theorem dX7_refusal_19 : decode cX7_refusal 19 = .ok (.ireturn, 1) := by decide +kernel
theorem dX7_refusal_20 : decode cX7_refusal 20 = .ok (.iinc 5 1, 3) := by decide +kernel
theorem dX7_refusal_23 : decode cX7_refusal 23 = .ok (.goto (-20), 3) := by decide +kernel
theorem dX7_refusal_26 : decode cX7_refusal 26 = .ok (.aload_n 0, 1) := by decide +kernel
theorem dX7_refusal_27 : decode cX7_refusal 27 = .ok (.iload_n 3, 1) := by decide +kernel
theorem dX7_refusal_28 : decode cX7_refusal 28 = .ok (.iload 4, 2) := by decide +kernel
theorem dX7_refusal_30 : decode cX7_refusal 30 = .ok (.invokevirtual 135, 3) := by decide +kernel
theorem dX7_refusal_33 : decode cX7_refusal 33 = .ok (.ifCond .eq 13, 3) := by decide +kernel
theorem dX7_refusal_36 : decode cX7_refusal 36 = .ok (.aload_n 0, 1) := by decide +kernel
theorem dX7_refusal_37 : decode cX7_refusal 37 = .ok (.iload_n 3, 1) := by decide +kernel
theorem dX7_refusal_38 : decode cX7_refusal 38 = .ok (.iload 4, 2) := by decide +kernel
theorem dX7_refusal_40 : decode cX7_refusal 40 = .ok (.invokevirtual 123, 3) := by decide +kernel
theorem dX7_refusal_43 : decode cX7_refusal 43 = .ok (.ifCond .eq 21, 3) := by decide +kernel
theorem dX7_refusal_46 : decode cX7_refusal 46 = .ok (.aload_n 0, 1) := by decide +kernel
theorem dX7_refusal_47 : decode cX7_refusal 47 = .ok (.iload_n 3, 1) := by decide +kernel
theorem dX7_refusal_48 : decode cX7_refusal 48 = .ok (.iload 4, 2) := by decide +kernel
theorem dX7_refusal_50 : decode cX7_refusal 50 = .ok (.invokevirtual 135, 3) := by decide +kernel
theorem dX7_refusal_53 : decode cX7_refusal 53 = .ok (.ifCond .eq 8, 3) := by decide +kernel
theorem dX7_refusal_56 : decode cX7_refusal 56 = .ok (.bipush 114, 2) := by decide +kernel
theorem dX7_refusal_58 : decode cX7_refusal 58 = .ok (.goto 5, 3) := by decide +kernel
theorem dX7_refusal_61 : decode cX7_refusal 61 = .ok (.bipush 116, 2) := by decide +kernel
theorem dX7_refusal_63 : decode cX7_refusal 63 = .ok (.ireturn, 1) := by decide +kernel
theorem dX7_refusal_64 : decode cX7_refusal 64 = .ok (.aload_n 0, 1) := by decide +kernel
theorem dX7_refusal_65 : decode cX7_refusal 65 = .ok (.getfield 40, 3) := by decide +kernel
theorem dX7_refusal_68 : decode cX7_refusal 68 = .ok (.iload_n 3, 1) := by decide +kernel
theorem dX7_refusal_69 : decode cX7_refusal 69 = .ok (.baload, 1) := by decide +kernel
theorem dX7_refusal_70 : decode cX7_refusal 70 = .ok (.ifCond .eq 15, 3) := by decide +kernel
theorem dX7_refusal_73 : decode cX7_refusal 73 = .ok (.aload_n 0, 1) := by decide +kernel
theorem dX7_refusal_74 : decode cX7_refusal 74 = .ok (.getfield 28, 3) := by decide +kernel
theorem dX7_refusal_77 : decode cX7_refusal 77 = .ok (.iload_n 3, 1) := by decide +kernel
theorem dX7_refusal_78 : decode cX7_refusal 78 = .ok (.iaload, 1) := by decide +kernel
theorem dX7_refusal_79 : decode cX7_refusal 79 = .ok (.iload_n 2, 1) := by decide +kernel
theorem dX7_refusal_80 : decode cX7_refusal 80 = .ok (.iconst 1, 1) := by decide +kernel
theorem dX7_refusal_81 : decode cX7_refusal 81 = .ok (.isub, 1) := by decide +kernel
theorem dX7_refusal_82 : decode cX7_refusal 82 = .ok (.if_icmp .ge 20, 3) := by decide +kernel
theorem dX7_refusal_85 : decode cX7_refusal 85 = .ok (.aload_n 0, 1) := by decide +kernel
theorem dX7_refusal_86 : decode cX7_refusal 86 = .ok (.getfield 40, 3) := by decide +kernel
theorem dX7_refusal_89 : decode cX7_refusal 89 = .ok (.iload_n 3, 1) := by decide +kernel
theorem dX7_refusal_90 : decode cX7_refusal 90 = .ok (.baload, 1) := by decide +kernel
theorem dX7_refusal_91 : decode cX7_refusal 91 = .ok (.ifCond .eq 8, 3) := by decide +kernel
theorem dX7_refusal_94 : decode cX7_refusal 94 = .ok (.bipush 108, 2) := by decide +kernel
theorem dX7_refusal_96 : decode cX7_refusal 96 = .ok (.goto 5, 3) := by decide +kernel
theorem dX7_refusal_99 : decode cX7_refusal 99 = .ok (.bipush 97, 2) := by decide +kernel
theorem dX7_refusal_101 : decode cX7_refusal 101 = .ok (.ireturn, 1) := by decide +kernel
theorem dX7_refusal_102 : decode cX7_refusal 102 = .ok (.aload_n 0, 1) := by decide +kernel
theorem dX7_refusal_103 : decode cX7_refusal 103 = .ok (.aload_n 1, 1) := by decide +kernel
theorem dX7_refusal_104 : decode cX7_refusal 104 = .ok (.iload_n 2, 1) := by decide +kernel
theorem dX7_refusal_105 : decode cX7_refusal 105 = .ok (.iload_n 3, 1) := by decide +kernel
theorem dX7_refusal_106 : decode cX7_refusal 106 = .ok (.invokevirtual 138, 3) := by decide +kernel
theorem dX7_refusal_109 : decode cX7_refusal 109 = .ok (.ifCond .eq 8, 3) := by decide +kernel
theorem dX7_refusal_112 : decode cX7_refusal 112 = .ok (.bipush 111, 2) := by decide +kernel
theorem dX7_refusal_114 : decode cX7_refusal 114 = .ok (.goto 5, 3) := by decide +kernel
theorem dX7_refusal_117 : decode cX7_refusal 117 = .ok (.bipush 110, 2) := by decide +kernel
theorem dX7_refusal_119 : decode cX7_refusal 119 = .ok (.ireturn, 1) := by decide +kernel
theorem dX7_canBegin_0 : decode cX7_canBegin 0 = .ok (.aload_n 0, 1) := by decide +kernel
theorem dX7_canBegin_1 : decode cX7_canBegin 1 = .ok (.iload_n 1, 1) := by decide +kernel
theorem dX7_canBegin_2 : decode cX7_canBegin 2 = .ok (.iload_n 2, 1) := by decide +kernel
theorem dX7_canBegin_3 : decode cX7_canBegin 3 = .ok (.invokevirtual 135, 3) := by decide +kernel
theorem dX7_canBegin_6 : decode cX7_canBegin 6 = .ok (.ifCond .eq 16, 3) := by decide +kernel
theorem dX7_canBegin_9 : decode cX7_canBegin 9 = .ok (.aload_n 0, 1) := by decide +kernel
theorem dX7_canBegin_10 : decode cX7_canBegin 10 = .ok (.iload_n 1, 1) := by decide +kernel
theorem dX7_canBegin_11 : decode cX7_canBegin 11 = .ok (.iload_n 2, 1) := by decide +kernel
theorem dX7_canBegin_12 : decode cX7_canBegin 12 = .ok (.invokevirtual 123, 3) := by decide +kernel
theorem dX7_canBegin_15 : decode cX7_canBegin 15 = .ok (.ifCond .ne 7, 3) := by decide +kernel
theorem dX7_canBegin_18 : decode cX7_canBegin 18 = .ok (.iconst 1, 1) := by decide +kernel
theorem dX7_canBegin_19 : decode cX7_canBegin 19 = .ok (.goto 4, 3) := by decide +kernel
theorem dX7_canBegin_22 : decode cX7_canBegin 22 = .ok (.iconst 0, 1) := by decide +kernel
theorem dX7_canBegin_23 : decode cX7_canBegin 23 = .ok (.ireturn, 1) := by decide +kernel
theorem dX7_finds_0 : decode cX7_finds 0 = .ok (.aload_n 0, 1) := by decide +kernel
theorem dX7_finds_1 : decode cX7_finds 1 = .ok (.getfield 53, 3) := by decide +kernel
theorem dX7_finds_4 : decode cX7_finds 4 = .ok (.iload_n 1, 1) := by decide +kernel
theorem dX7_finds_5 : decode cX7_finds 5 = .ok (.iconst 1, 1) := by decide +kernel
theorem dX7_finds_6 : decode cX7_finds 6 = .ok (.isub, 1) := by decide +kernel
theorem dX7_finds_7 : decode cX7_finds 7 = .ok (.iaload, 1) := by decide +kernel
theorem dX7_finds_8 : decode cX7_finds 8 = .ok (.istore 4, 2) := by decide +kernel
theorem dX7_finds_10 : decode cX7_finds 10 = .ok (.iload_n 1, 1) := by decide +kernel
theorem dX7_finds_11 : decode cX7_finds 11 = .ok (.iload_n 2, 1) := by decide +kernel
theorem dX7_finds_12 : decode cX7_finds 12 = .ok (.if_icmp .ne 29, 3) := by decide +kernel
theorem dX7_finds_15 : decode cX7_finds 15 = .ok (.aload_n 0, 1) := by decide +kernel
theorem dX7_finds_16 : decode cX7_finds 16 = .ok (.getfield 44, 3) := by decide +kernel
theorem dX7_finds_19 : decode cX7_finds 19 = .ok (.iload 4, 2) := by decide +kernel
theorem dX7_finds_21 : decode cX7_finds 21 = .ok (.baload, 1) := by decide +kernel
theorem dX7_finds_22 : decode cX7_finds 22 = .ok (.ifCond .eq 17, 3) := by decide +kernel
theorem dX7_finds_25 : decode cX7_finds 25 = .ok (.aload_n 0, 1) := by decide +kernel
theorem dX7_finds_26 : decode cX7_finds 26 = .ok (.getfield 47, 3) := by decide +kernel
theorem dX7_finds_29 : decode cX7_finds 29 = .ok (.iload 4, 2) := by decide +kernel
theorem dX7_finds_31 : decode cX7_finds 31 = .ok (.baload, 1) := by decide +kernel
theorem dX7_finds_32 : decode cX7_finds 32 = .ok (.ifCond .eq 7, 3) := by decide +kernel
theorem dX7_finds_35 : decode cX7_finds 35 = .ok (.iconst 1, 1) := by decide +kernel
theorem dX7_finds_36 : decode cX7_finds 36 = .ok (.goto 4, 3) := by decide +kernel
theorem dX7_finds_39 : decode cX7_finds 39 = .ok (.iconst 0, 1) := by decide +kernel
theorem dX7_finds_40 : decode cX7_finds 40 = .ok (.ireturn, 1) := by decide +kernel
theorem dX7_finds_41 : decode cX7_finds 41 = .ok (.iconst 0, 1) := by decide +kernel
theorem dX7_finds_42 : decode cX7_finds 42 = .ok (.istore 5, 2) := by decide +kernel
theorem dX7_finds_44 : decode cX7_finds 44 = .ok (.iload 5, 2) := by decide +kernel
theorem dX7_finds_46 : decode cX7_finds 46 = .ok (.aload_n 0, 1) := by decide +kernel
theorem dX7_finds_47 : decode cX7_finds 47 = .ok (.getfield 71, 3) := by decide +kernel
theorem dX7_finds_50 : decode cX7_finds 50 = .ok (.if_icmp .ge 59, 3) := by decide +kernel
theorem dX7_finds_53 : decode cX7_finds 53 = .ok (.aload_n 0, 1) := by decide +kernel
theorem dX7_finds_54 : decode cX7_finds 54 = .ok (.iload 4, 2) := by decide +kernel
theorem dX7_finds_56 : decode cX7_finds 56 = .ok (.iload 5, 2) := by decide +kernel
theorem dX7_finds_58 : decode cX7_finds 58 = .ok (.invokevirtual 129, 3) := by decide +kernel
theorem dX7_finds_61 : decode cX7_finds 61 = .ok (.ifCond .eq 42, 3) := by decide +kernel
theorem dX7_finds_64 : decode cX7_finds 64 = .ok (.aload_n 0, 1) := by decide +kernel
theorem dX7_finds_65 : decode cX7_finds 65 = .ok (.aload_n 0, 1) := by decide +kernel
theorem dX7_finds_66 : decode cX7_finds 66 = .ok (.getfield 53, 3) := by decide +kernel
theorem dX7_finds_69 : decode cX7_finds 69 = .ok (.iload_n 1, 1) := by decide +kernel
theorem dX7_finds_70 : decode cX7_finds 70 = .ok (.iload 5, 2) := by decide +kernel
theorem dX7_finds_72 : decode cX7_finds 72 = .ok (.iload_n 3, 1) := by decide +kernel
theorem dX7_finds_73 : decode cX7_finds 73 = .ok (.invokevirtual 142, 3) := by decide +kernel
theorem dX7_finds_76 : decode cX7_finds 76 = .ok (.bipush 111, 2) := by decide +kernel
theorem dX7_finds_78 : decode cX7_finds 78 = .ok (.if_icmp .ne 25, 3) := by decide +kernel
theorem dX7_finds_81 : decode cX7_finds 81 = .ok (.aload_n 0, 1) := by decide +kernel
theorem dX7_finds_82 : decode cX7_finds 82 = .ok (.getfield 53, 3) := by decide +kernel
theorem dX7_finds_85 : decode cX7_finds 85 = .ok (.iload_n 1, 1) := by decide +kernel
theorem dX7_finds_86 : decode cX7_finds 86 = .ok (.iload 5, 2) := by decide +kernel
theorem dX7_finds_88 : decode cX7_finds 88 = .ok (.iastore, 1) := by decide +kernel
theorem dX7_finds_89 : decode cX7_finds 89 = .ok (.aload_n 0, 1) := by decide +kernel
theorem dX7_finds_90 : decode cX7_finds 90 = .ok (.iload_n 1, 1) := by decide +kernel
theorem dX7_finds_91 : decode cX7_finds 91 = .ok (.iconst 1, 1) := by decide +kernel
theorem dX7_finds_92 : decode cX7_finds 92 = .ok (.iadd, 1) := by decide +kernel
theorem dX7_finds_93 : decode cX7_finds 93 = .ok (.iload_n 2, 1) := by decide +kernel
theorem dX7_finds_94 : decode cX7_finds 94 = .ok (.iload_n 3, 1) := by decide +kernel
theorem dX7_finds_95 : decode cX7_finds 95 = .ok (.invokevirtual 146, 3) := by decide +kernel
theorem dX7_finds_98 : decode cX7_finds 98 = .ok (.ifCond .eq 5, 3) := by decide +kernel
theorem dX7_finds_101 : decode cX7_finds 101 = .ok (.iconst 1, 1) := by decide +kernel
theorem dX7_finds_102 : decode cX7_finds 102 = .ok (.ireturn, 1) := by decide +kernel
theorem dX7_finds_103 : decode cX7_finds 103 = .ok (.iinc 5 1, 3) := by decide +kernel
theorem dX7_finds_106 : decode cX7_finds 106 = .ok (.goto (-62), 3) := by decide +kernel
theorem dX7_finds_109 : decode cX7_finds 109 = .ok (.iconst 0, 1) := by decide +kernel
theorem dX7_finds_110 : decode cX7_finds 110 = .ok (.ireturn, 1) := by decide +kernel
theorem dX7_best_0 : decode cX7_best 0 = .ok (.aload_n 0, 1) := by decide +kernel
theorem dX7_best_1 : decode cX7_best 1 = .ok (.getfield 53, 3) := by decide +kernel
theorem dX7_best_4 : decode cX7_best 4 = .ok (.iconst 0, 1) := by decide +kernel
theorem dX7_best_5 : decode cX7_best 5 = .ok (.iload_n 1, 1) := by decide +kernel
theorem dX7_best_6 : decode cX7_best 6 = .ok (.iastore, 1) := by decide +kernel
theorem dX7_best_7 : decode cX7_best 7 = .ok (.iconst 1, 1) := by decide +kernel
theorem dX7_best_8 : decode cX7_best 8 = .ok (.istore_n 3, 1) := by decide +kernel
theorem dX7_best_9 : decode cX7_best 9 = .ok (.iload_n 3, 1) := by decide +kernel
theorem dX7_best_10 : decode cX7_best 10 = .ok (.bipush 8, 2) := by decide +kernel
theorem dX7_best_12 : decode cX7_best 12 = .ok (.if_icmp .ge 30, 3) := by decide +kernel
theorem dX7_best_15 : decode cX7_best 15 = .ok (.aload_n 0, 1) := by decide +kernel
theorem dX7_best_16 : decode cX7_best 16 = .ok (.iload_n 1, 1) := by decide +kernel
theorem dX7_best_17 : decode cX7_best 17 = .ok (.iload_n 2, 1) := by decide +kernel
theorem dX7_best_18 : decode cX7_best 18 = .ok (.invokevirtual 149, 3) := by decide +kernel
theorem dX7_best_21 : decode cX7_best 21 = .ok (.ifCond .eq 21, 3) := by decide +kernel
theorem dX7_best_24 : decode cX7_best 24 = .ok (.aload_n 0, 1) := by decide +kernel
theorem dX7_best_25 : decode cX7_best 25 = .ok (.iconst 1, 1) := by decide +kernel
theorem dX7_best_26 : decode cX7_best 26 = .ok (.iload_n 3, 1) := by decide +kernel
theorem dX7_best_27 : decode cX7_best 27 = .ok (.iload_n 2, 1) := by decide +kernel
theorem dX7_best_28 : decode cX7_best 28 = .ok (.invokevirtual 146, 3) := by decide +kernel
theorem dX7_best_31 : decode cX7_best 31 = .ok (.ifCond .eq 5, 3) := by decide +kernel
theorem dX7_best_34 : decode cX7_best 34 = .ok (.iload_n 3, 1) := by decide +kernel
theorem dX7_best_35 : decode cX7_best 35 = .ok (.ireturn, 1) := by decide +kernel
theorem dX7_best_36 : decode cX7_best 36 = .ok (.iinc 3 1, 3) := by decide +kernel
theorem dX7_best_39 : decode cX7_best 39 = .ok (.goto (-30), 3) := by decide +kernel
theorem dX7_best_42 : decode cX7_best 42 = .ok (.iconst 0, 1) := by decide +kernel
theorem dX7_best_43 : decode cX7_best 43 = .ok (.ireturn, 1) := by decide +kernel
theorem dX7_chainSize_0 : decode cX7_chainSize 0 = .ok (.aload_n 0, 1) := by decide +kernel
theorem dX7_chainSize_1 : decode cX7_chainSize 1 = .ok (.iload_n 1, 1) := by decide +kernel
theorem dX7_chainSize_2 : decode cX7_chainSize 2 = .ok (.iload_n 2, 1) := by decide +kernel
theorem dX7_chainSize_3 : decode cX7_chainSize 3 = .ok (.invokevirtual 120, 3) := by decide +kernel
theorem dX7_chainSize_6 : decode cX7_chainSize 6 = .ok (.ifCond .eq 7, 3) := by decide +kernel
theorem dX7_chainSize_9 : decode cX7_chainSize 9 = .ok (.iconst 0, 1) := by decide +kernel
theorem dX7_chainSize_10 : decode cX7_chainSize 10 = .ok (.goto 9, 3) := by decide +kernel
theorem dX7_chainSize_13 : decode cX7_chainSize 13 = .ok (.aload_n 0, 1) := by decide +kernel
theorem dX7_chainSize_14 : decode cX7_chainSize 14 = .ok (.iload_n 1, 1) := by decide +kernel
theorem dX7_chainSize_15 : decode cX7_chainSize 15 = .ok (.iload_n 2, 1) := by decide +kernel
theorem dX7_chainSize_16 : decode cX7_chainSize 16 = .ok (.invokevirtual 152, 3) := by decide +kernel
theorem dX7_chainSize_19 : decode cX7_chainSize 19 = .ok (.ireturn, 1) := by decide +kernel
theorem dX7_chainAt_0 : decode cX7_chainAt 0 = .ok (.aload_n 0, 1) := by decide +kernel
theorem dX7_chainAt_1 : decode cX7_chainAt 1 = .ok (.iload_n 1, 1) := by decide +kernel
theorem dX7_chainAt_2 : decode cX7_chainAt 2 = .ok (.iload_n 2, 1) := by decide +kernel
theorem dX7_chainAt_3 : decode cX7_chainAt 3 = .ok (.invokevirtual 120, 3) := by decide +kernel
theorem dX7_chainAt_6 : decode cX7_chainAt 6 = .ok (.ifCond .eq 5, 3) := by decide +kernel
theorem dX7_chainAt_9 : decode cX7_chainAt 9 = .ok (.iconst 0, 1) := by decide +kernel
theorem dX7_chainAt_10 : decode cX7_chainAt 10 = .ok (.ireturn, 1) := by decide +kernel
theorem dX7_chainAt_11 : decode cX7_chainAt 11 = .ok (.aload_n 0, 1) := by decide +kernel
theorem dX7_chainAt_12 : decode cX7_chainAt 12 = .ok (.iload_n 1, 1) := by decide +kernel
theorem dX7_chainAt_13 : decode cX7_chainAt 13 = .ok (.iload_n 2, 1) := by decide +kernel
theorem dX7_chainAt_14 : decode cX7_chainAt 14 = .ok (.invokevirtual 152, 3) := by decide +kernel
theorem dX7_chainAt_17 : decode cX7_chainAt 17 = .ok (.istore 4, 2) := by decide +kernel
theorem dX7_chainAt_19 : decode cX7_chainAt 19 = .ok (.aload_n 0, 1) := by decide +kernel
theorem dX7_chainAt_20 : decode cX7_chainAt 20 = .ok (.iload_n 3, 1) := by decide +kernel
theorem dX7_chainAt_21 : decode cX7_chainAt 21 = .ok (.iconst 0, 1) := by decide +kernel
theorem dX7_chainAt_22 : decode cX7_chainAt 22 = .ok (.iload 4, 2) := by decide +kernel
theorem dX7_chainAt_24 : decode cX7_chainAt 24 = .ok (.iconst 1, 1) := by decide +kernel
theorem dX7_chainAt_25 : decode cX7_chainAt 25 = .ok (.isub, 1) := by decide +kernel
theorem dX7_chainAt_26 : decode cX7_chainAt 26 = .ok (.invokestatic 67, 3) := by decide +kernel
theorem dX7_chainAt_29 : decode cX7_chainAt 29 = .ok (.ifCond .ne 7, 3) := by decide +kernel
theorem dX7_chainAt_32 : decode cX7_chainAt 32 = .ok (.iconst 1, 1) := by decide +kernel
theorem dX7_chainAt_33 : decode cX7_chainAt 33 = .ok (.goto 4, 3) := by decide +kernel
theorem dX7_chainAt_36 : decode cX7_chainAt 36 = .ok (.iconst 0, 1) := by decide +kernel
theorem dX7_chainAt_37 : decode cX7_chainAt 37 = .ok (.iconst 3, 1) := by decide +kernel
theorem dX7_chainAt_38 : decode cX7_chainAt 38 = .ok (.invokevirtual 78, 3) := by decide +kernel
theorem dX7_chainAt_41 : decode cX7_chainAt 41 = .ok (.ifCond .eq 7, 3) := by decide +kernel
theorem dX7_chainAt_44 : decode cX7_chainAt 44 = .ok (.iconst 0, 1) := by decide +kernel
theorem dX7_chainAt_45 : decode cX7_chainAt 45 = .ok (.goto 9, 3) := by decide +kernel
theorem dX7_chainAt_48 : decode cX7_chainAt 48 = .ok (.aload_n 0, 1) := by decide +kernel
theorem dX7_chainAt_49 : decode cX7_chainAt 49 = .ok (.getfield 53, 3) := by decide +kernel
theorem dX7_chainAt_52 : decode cX7_chainAt 52 = .ok (.iload_n 3, 1) := by decide +kernel
theorem dX7_chainAt_53 : decode cX7_chainAt 53 = .ok (.iaload, 1) := by decide +kernel
theorem dX7_chainAt_54 : decode cX7_chainAt 54 = .ok (.ireturn, 1) := by decide +kernel
theorem dX7_counts_0 : decode cX7_counts 0 = .ok (.aload_n 0, 1) := by decide +kernel
theorem dX7_counts_1 : decode cX7_counts 1 = .ok (.getfield 53, 3) := by decide +kernel
theorem dX7_counts_4 : decode cX7_counts 4 = .ok (.iload_n 1, 1) := by decide +kernel
theorem dX7_counts_5 : decode cX7_counts 5 = .ok (.iconst 1, 1) := by decide +kernel
theorem dX7_counts_6 : decode cX7_counts 6 = .ok (.isub, 1) := by decide +kernel
theorem dX7_counts_7 : decode cX7_counts 7 = .ok (.iaload, 1) := by decide +kernel
theorem dX7_counts_8 : decode cX7_counts 8 = .ok (.istore_n 3, 1) := by decide +kernel
theorem dX7_counts_9 : decode cX7_counts 9 = .ok (.aload_n 0, 1) := by decide +kernel
theorem dX7_counts_10 : decode cX7_counts 10 = .ok (.dup, 1) := by decide +kernel
theorem dX7_counts_11 : decode cX7_counts 11 = .ok (.getfield 155, 3) := by decide +kernel
theorem dX7_counts_14 : decode cX7_counts 14 = .ok (.aload_n 0, 1) := by decide +kernel
theorem dX7_counts_15 : decode cX7_counts 15 = .ok (.getfield 44, 3) := by decide +kernel
theorem dX7_counts_18 : decode cX7_counts 18 = .ok (.iload_n 3, 1) := by decide +kernel
theorem dX7_counts_19 : decode cX7_counts 19 = .ok (.baload, 1) := by decide +kernel
theorem dX7_counts_20 : decode cX7_counts 20 = .ok (.ifCond .eq 16, 3) := by decide +kernel
theorem dX7_counts_23 : decode cX7_counts 23 = .ok (.aload_n 0, 1) := by decide +kernel
theorem dX7_counts_24 : decode cX7_counts 24 = .ok (.getfield 47, 3) := by decide +kernel
theorem dX7_counts_27 : decode cX7_counts 27 = .ok (.iload_n 3, 1) := by decide +kernel
theorem dX7_counts_28 : decode cX7_counts 28 = .ok (.baload, 1) := by decide +kernel
theorem dX7_counts_29 : decode cX7_counts 29 = .ok (.ifCond .eq 7, 3) := by decide +kernel
theorem dX7_counts_32 : decode cX7_counts 32 = .ok (.iconst 1, 1) := by decide +kernel
theorem dX7_counts_33 : decode cX7_counts 33 = .ok (.goto 4, 3) := by decide +kernel
theorem dX7_counts_36 : decode cX7_counts 36 = .ok (.iconst 0, 1) := by decide +kernel
theorem dX7_counts_37 : decode cX7_counts 37 = .ok (.iadd, 1) := by decide +kernel
theorem dX7_counts_38 : decode cX7_counts 38 = .ok (.putfield 155, 3) := by decide +kernel
theorem dX7_counts_41 : decode cX7_counts 41 = .ok (.iconst 0, 1) := by decide +kernel
theorem dX7_counts_42 : decode cX7_counts 42 = .ok (.istore 4, 2) := by decide +kernel
theorem dX7_counts_44 : decode cX7_counts 44 = .ok (.iload 4, 2) := by decide +kernel
theorem dX7_counts_46 : decode cX7_counts 46 = .ok (.aload_n 0, 1) := by decide +kernel
theorem dX7_counts_47 : decode cX7_counts 47 = .ok (.getfield 71, 3) := by decide +kernel
theorem dX7_counts_50 : decode cX7_counts 50 = .ok (.if_icmp .ge 52, 3) := by decide +kernel
theorem dX7_counts_53 : decode cX7_counts 53 = .ok (.aload_n 0, 1) := by decide +kernel
theorem dX7_counts_54 : decode cX7_counts 54 = .ok (.iload_n 3, 1) := by decide +kernel
theorem dX7_counts_55 : decode cX7_counts 55 = .ok (.iload 4, 2) := by decide +kernel
theorem dX7_counts_57 : decode cX7_counts 57 = .ok (.invokevirtual 129, 3) := by decide +kernel
theorem dX7_counts_60 : decode cX7_counts 60 = .ok (.ifCond .eq 36, 3) := by decide +kernel
theorem dX7_counts_63 : decode cX7_counts 63 = .ok (.aload_n 0, 1) := by decide +kernel
theorem dX7_counts_64 : decode cX7_counts 64 = .ok (.aload_n 0, 1) := by decide +kernel
theorem dX7_counts_65 : decode cX7_counts 65 = .ok (.getfield 53, 3) := by decide +kernel
theorem dX7_counts_68 : decode cX7_counts 68 = .ok (.iload_n 1, 1) := by decide +kernel
theorem dX7_counts_69 : decode cX7_counts 69 = .ok (.iload 4, 2) := by decide +kernel
theorem dX7_counts_71 : decode cX7_counts 71 = .ok (.iload_n 2, 1) := by decide +kernel
theorem dX7_counts_72 : decode cX7_counts 72 = .ok (.invokevirtual 142, 3) := by decide +kernel
theorem dX7_counts_75 : decode cX7_counts 75 = .ok (.bipush 111, 2) := by decide +kernel
theorem dX7_counts_77 : decode cX7_counts 77 = .ok (.if_icmp .ne 19, 3) := by decide +kernel
theorem dX7_counts_80 : decode cX7_counts 80 = .ok (.aload_n 0, 1) := by decide +kernel
theorem dX7_counts_81 : decode cX7_counts 81 = .ok (.getfield 53, 3) := by decide +kernel
theorem dX7_counts_84 : decode cX7_counts 84 = .ok (.iload_n 1, 1) := by decide +kernel
theorem dX7_counts_85 : decode cX7_counts 85 = .ok (.iload 4, 2) := by decide +kernel
theorem dX7_counts_87 : decode cX7_counts 87 = .ok (.iastore, 1) := by decide +kernel
theorem dX7_counts_88 : decode cX7_counts 88 = .ok (.aload_n 0, 1) := by decide +kernel
theorem dX7_counts_89 : decode cX7_counts 89 = .ok (.iload_n 1, 1) := by decide +kernel
theorem dX7_counts_90 : decode cX7_counts 90 = .ok (.iconst 1, 1) := by decide +kernel
theorem dX7_counts_91 : decode cX7_counts 91 = .ok (.iadd, 1) := by decide +kernel
theorem dX7_counts_92 : decode cX7_counts 92 = .ok (.iload_n 2, 1) := by decide +kernel
theorem dX7_counts_93 : decode cX7_counts 93 = .ok (.invokevirtual 158, 3) := by decide +kernel
theorem dX7_counts_96 : decode cX7_counts 96 = .ok (.iinc 4 1, 3) := by decide +kernel
theorem dX7_counts_99 : decode cX7_counts 99 = .ok (.goto (-55), 3) := by decide +kernel
theorem dX7_counts_102 : decode cX7_counts 102 = .ok (.return_, 1) := by decide +kernel
theorem dX7_goodChains_0 : decode cX7_goodChains 0 = .ok (.aload_n 0, 1) := by decide +kernel
theorem dX7_goodChains_1 : decode cX7_goodChains 1 = .ok (.iload_n 1, 1) := by decide +kernel
theorem dX7_goodChains_2 : decode cX7_goodChains 2 = .ok (.iload_n 2, 1) := by decide +kernel
theorem dX7_goodChains_3 : decode cX7_goodChains 3 = .ok (.invokevirtual 120, 3) := by decide +kernel
theorem dX7_goodChains_6 : decode cX7_goodChains 6 = .ok (.ifCond .eq 5, 3) := by decide +kernel
theorem dX7_goodChains_9 : decode cX7_goodChains 9 = .ok (.iconst 0, 1) := by decide +kernel
theorem dX7_goodChains_10 : decode cX7_goodChains 10 = .ok (.ireturn, 1) := by decide +kernel
theorem dX7_goodChains_11 : decode cX7_goodChains 11 = .ok (.aload_n 0, 1) := by decide +kernel
theorem dX7_goodChains_12 : decode cX7_goodChains 12 = .ok (.iconst 0, 1) := by decide +kernel
theorem dX7_goodChains_13 : decode cX7_goodChains 13 = .ok (.putfield 155, 3) := by decide +kernel
theorem dX7_goodChains_16 : decode cX7_goodChains 16 = .ok (.aload_n 0, 1) := by decide +kernel
theorem dX7_goodChains_17 : decode cX7_goodChains 17 = .ok (.getfield 53, 3) := by decide +kernel
theorem dX7_goodChains_20 : decode cX7_goodChains 20 = .ok (.iconst 0, 1) := by decide +kernel
theorem dX7_goodChains_21 : decode cX7_goodChains 21 = .ok (.iload_n 1, 1) := by decide +kernel
theorem dX7_goodChains_22 : decode cX7_goodChains 22 = .ok (.iastore, 1) := by decide +kernel
theorem dX7_goodChains_23 : decode cX7_goodChains 23 = .ok (.aload_n 0, 1) := by decide +kernel
theorem dX7_goodChains_24 : decode cX7_goodChains 24 = .ok (.iload_n 1, 1) := by decide +kernel
theorem dX7_goodChains_25 : decode cX7_goodChains 25 = .ok (.iload_n 2, 1) := by decide +kernel
theorem dX7_goodChains_26 : decode cX7_goodChains 26 = .ok (.invokevirtual 149, 3) := by decide +kernel
theorem dX7_goodChains_29 : decode cX7_goodChains 29 = .ok (.ifCond .eq 9, 3) := by decide +kernel
theorem dX7_goodChains_32 : decode cX7_goodChains 32 = .ok (.aload_n 0, 1) := by decide +kernel
theorem dX7_goodChains_33 : decode cX7_goodChains 33 = .ok (.iconst 1, 1) := by decide +kernel
theorem dX7_goodChains_34 : decode cX7_goodChains 34 = .ok (.iload_n 2, 1) := by decide +kernel
theorem dX7_goodChains_35 : decode cX7_goodChains 35 = .ok (.invokevirtual 158, 3) := by decide +kernel
theorem dX7_goodChains_38 : decode cX7_goodChains 38 = .ok (.aload_n 0, 1) := by decide +kernel
theorem dX7_goodChains_39 : decode cX7_goodChains 39 = .ok (.getfield 155, 3) := by decide +kernel
theorem dX7_goodChains_42 : decode cX7_goodChains 42 = .ok (.ireturn, 1) := by decide +kernel
theorem dX7_goodChainsByWalks_0 : decode cX7_goodChainsByWalks 0 = .ok (.aload_n 0, 1) := by decide +kernel
theorem dX7_goodChainsByWalks_1 : decode cX7_goodChainsByWalks 1 = .ok (.iload_n 1, 1) := by decide +kernel
theorem dX7_goodChainsByWalks_2 : decode cX7_goodChainsByWalks 2 = .ok (.iload_n 2, 1) := by decide +kernel
theorem dX7_goodChainsByWalks_3 : decode cX7_goodChainsByWalks 3 = .ok (.invokevirtual 162, 3) := by decide +kernel
theorem dX7_goodChainsByWalks_6 : decode cX7_goodChainsByWalks 6 = .ok (.ireturn, 1) := by decide +kernel
theorem dX7_begin_0 : decode cX7_begin 0 = .ok (.aload_n 0, 1) := by decide +kernel
theorem dX7_begin_1 : decode cX7_begin 1 = .ok (.iload_n 1, 1) := by decide +kernel
theorem dX7_begin_2 : decode cX7_begin 2 = .ok (.iload_n 2, 1) := by decide +kernel
theorem dX7_begin_3 : decode cX7_begin 3 = .ok (.invokevirtual 120, 3) := by decide +kernel
theorem dX7_begin_6 : decode cX7_begin 6 = .ok (.ifCond .eq 5, 3) := by decide +kernel
theorem dX7_begin_9 : decode cX7_begin 9 = .ok (.iconst 0, 1) := by decide +kernel
theorem dX7_begin_10 : decode cX7_begin 10 = .ok (.ireturn, 1) := by decide +kernel
theorem dX7_begin_11 : decode cX7_begin 11 = .ok (.aload_n 0, 1) := by decide +kernel
theorem dX7_begin_12 : decode cX7_begin 12 = .ok (.iload_n 1, 1) := by decide +kernel
theorem dX7_begin_13 : decode cX7_begin 13 = .ok (.iload_n 2, 1) := by decide +kernel
theorem dX7_begin_14 : decode cX7_begin 14 = .ok (.invokevirtual 149, 3) := by decide +kernel
theorem dX7_begin_17 : decode cX7_begin 17 = .ok (.ifCond .ne 20, 3) := by decide +kernel
theorem dX7_begin_20 : decode cX7_begin 20 = .ok (.aload_n 0, 1) := by decide +kernel
theorem dX7_begin_21 : decode cX7_begin 21 = .ok (.iload_n 1, 1) := by decide +kernel
theorem dX7_begin_22 : decode cX7_begin 22 = .ok (.iload_n 2, 1) := by decide +kernel
theorem dX7_begin_23 : decode cX7_begin 23 = .ok (.invokevirtual 135, 3) := by decide +kernel
theorem dX7_begin_26 : decode cX7_begin 26 = .ok (.ifCond .eq 8, 3) := by decide +kernel
theorem dX7_begin_29 : decode cX7_begin 29 = .ok (.bipush 114, 2) := by decide +kernel
theorem dX7_begin_31 : decode cX7_begin 31 = .ok (.goto 5, 3) := by decide +kernel
theorem dX7_begin_34 : decode cX7_begin 34 = .ok (.bipush 116, 2) := by decide +kernel
theorem dX7_begin_36 : decode cX7_begin 36 = .ok (.ireturn, 1) := by decide +kernel
theorem dX7_begin_37 : decode cX7_begin 37 = .ok (.aload_n 0, 1) := by decide +kernel
theorem dX7_begin_38 : decode cX7_begin 38 = .ok (.getfield 56, 3) := by decide +kernel
theorem dX7_begin_41 : decode cX7_begin 41 = .ok (.iconst 0, 1) := by decide +kernel
theorem dX7_begin_42 : decode cX7_begin 42 = .ok (.iload_n 1, 1) := by decide +kernel
theorem dX7_begin_43 : decode cX7_begin 43 = .ok (.iastore, 1) := by decide +kernel
theorem dX7_begin_44 : decode cX7_begin 44 = .ok (.aload_n 0, 1) := by decide +kernel
theorem dX7_begin_45 : decode cX7_begin 45 = .ok (.iconst 1, 1) := by decide +kernel
theorem dX7_begin_46 : decode cX7_begin 46 = .ok (.putfield 165, 3) := by decide +kernel
theorem dX7_begin_49 : decode cX7_begin 49 = .ok (.aload_n 0, 1) := by decide +kernel
theorem dX7_begin_50 : decode cX7_begin 50 = .ok (.iload_n 2, 1) := by decide +kernel
theorem dX7_begin_51 : decode cX7_begin 51 = .ok (.putfield 168, 3) := by decide +kernel
theorem dX7_begin_54 : decode cX7_begin 54 = .ok (.bipush 111, 2) := by decide +kernel
theorem dX7_begin_56 : decode cX7_begin 56 = .ok (.ireturn, 1) := by decide +kernel
theorem dX7_step_0 : decode cX7_step 0 = .ok (.aload_n 0, 1) := by decide +kernel
theorem dX7_step_1 : decode cX7_step 1 = .ok (.aload_n 0, 1) := by decide +kernel
theorem dX7_step_2 : decode cX7_step 2 = .ok (.getfield 165, 3) := by decide +kernel
theorem dX7_step_5 : decode cX7_step 5 = .ok (.ifCond .ne 7, 3) := by decide +kernel
theorem dX7_step_8 : decode cX7_step 8 = .ok (.iconst 1, 1) := by decide +kernel
theorem dX7_step_9 : decode cX7_step 9 = .ok (.goto 4, 3) := by decide +kernel
theorem dX7_step_12 : decode cX7_step 12 = .ok (.iconst 0, 1) := by decide +kernel
theorem dX7_step_13 : decode cX7_step 13 = .ok (.iconst 1, 1) := by decide +kernel
theorem dX7_step_14 : decode cX7_step 14 = .ok (.invokevirtual 78, 3) := by decide +kernel
theorem dX7_step_17 : decode cX7_step 17 = .ok (.ifCond .eq 5, 3) := by decide +kernel
theorem dX7_step_20 : decode cX7_step 20 = .ok (.iconst 0, 1) := by decide +kernel
theorem dX7_step_21 : decode cX7_step 21 = .ok (.ireturn, 1) := by decide +kernel
theorem dX7_step_22 : decode cX7_step 22 = .ok (.aload_n 0, 1) := by decide +kernel
theorem dX7_step_23 : decode cX7_step 23 = .ok (.aload_n 0, 1) := by decide +kernel
theorem dX7_step_24 : decode cX7_step 24 = .ok (.getfield 56, 3) := by decide +kernel
theorem dX7_step_27 : decode cX7_step 27 = .ok (.aload_n 0, 1) := by decide +kernel
theorem dX7_step_28 : decode cX7_step 28 = .ok (.getfield 165, 3) := by decide +kernel
theorem dX7_step_31 : decode cX7_step 31 = .ok (.iconst 1, 1) := by decide +kernel
theorem dX7_step_32 : decode cX7_step 32 = .ok (.isub, 1) := by decide +kernel
theorem dX7_step_33 : decode cX7_step 33 = .ok (.iaload, 1) := by decide +kernel
theorem dX7_step_34 : decode cX7_step 34 = .ok (.iload_n 1, 1) := by decide +kernel
theorem dX7_step_35 : decode cX7_step 35 = .ok (.invokevirtual 132, 3) := by decide +kernel
theorem dX7_step_38 : decode cX7_step 38 = .ok (.istore_n 2, 1) := by decide +kernel
theorem dX7_step_39 : decode cX7_step 39 = .ok (.aload_n 0, 1) := by decide +kernel
theorem dX7_step_40 : decode cX7_step 40 = .ok (.iload_n 2, 1) := by decide +kernel
theorem dX7_step_41 : decode cX7_step 41 = .ok (.ifCond .ge 7, 3) := by decide +kernel
theorem dX7_step_44 : decode cX7_step 44 = .ok (.iconst 1, 1) := by decide +kernel
theorem dX7_step_45 : decode cX7_step 45 = .ok (.goto 4, 3) := by decide +kernel
theorem dX7_step_48 : decode cX7_step 48 = .ok (.iconst 0, 1) := by decide +kernel
theorem dX7_step_49 : decode cX7_step 49 = .ok (.iconst 2, 1) := by decide +kernel
theorem dX7_step_50 : decode cX7_step 50 = .ok (.invokevirtual 78, 3) := by decide +kernel
theorem dX7_step_53 : decode cX7_step 53 = .ok (.ifCond .eq 5, 3) := by decide +kernel
theorem dX7_step_56 : decode cX7_step 56 = .ok (.iconst 0, 1) := by decide +kernel
theorem dX7_step_57 : decode cX7_step 57 = .ok (.ireturn, 1) := by decide +kernel
theorem dX7_step_58 : decode cX7_step 58 = .ok (.aload_n 0, 1) := by decide +kernel
theorem dX7_step_59 : decode cX7_step 59 = .ok (.aload_n 0, 1) := by decide +kernel
theorem dX7_step_60 : decode cX7_step 60 = .ok (.getfield 56, 3) := by decide +kernel
theorem dX7_step_63 : decode cX7_step 63 = .ok (.aload_n 0, 1) := by decide +kernel
theorem dX7_step_64 : decode cX7_step 64 = .ok (.getfield 165, 3) := by decide +kernel
theorem dX7_step_67 : decode cX7_step 67 = .ok (.iload_n 2, 1) := by decide +kernel
theorem dX7_step_68 : decode cX7_step 68 = .ok (.aload_n 0, 1) := by decide +kernel
theorem dX7_step_69 : decode cX7_step 69 = .ok (.getfield 168, 3) := by decide +kernel
theorem dX7_step_72 : decode cX7_step 72 = .ok (.invokevirtual 142, 3) := by decide +kernel
theorem dX7_step_75 : decode cX7_step 75 = .ok (.istore_n 3, 1) := by decide +kernel
theorem dX7_step_76 : decode cX7_step 76 = .ok (.iload_n 3, 1) := by decide +kernel
theorem dX7_step_77 : decode cX7_step 77 = .ok (.bipush 111, 2) := by decide +kernel
theorem dX7_step_79 : decode cX7_step 79 = .ok (.if_icmp .ne 23, 3) := by decide +kernel
theorem dX7_step_82 : decode cX7_step 82 = .ok (.aload_n 0, 1) := by decide +kernel
theorem dX7_step_83 : decode cX7_step 83 = .ok (.getfield 56, 3) := by decide +kernel
theorem dX7_step_86 : decode cX7_step 86 = .ok (.aload_n 0, 1) := by decide +kernel
theorem dX7_step_87 : decode cX7_step 87 = .ok (.getfield 165, 3) := by decide +kernel
theorem dX7_step_90 : decode cX7_step 90 = .ok (.iload_n 2, 1) := by decide +kernel
theorem dX7_step_91 : decode cX7_step 91 = .ok (.iastore, 1) := by decide +kernel
theorem dX7_step_92 : decode cX7_step 92 = .ok (.aload_n 0, 1) := by decide +kernel
theorem dX7_step_93 : decode cX7_step 93 = .ok (.dup, 1) := by decide +kernel
theorem dX7_step_94 : decode cX7_step 94 = .ok (.getfield 165, 3) := by decide +kernel
theorem dX7_step_97 : decode cX7_step 97 = .ok (.iconst 1, 1) := by decide +kernel
theorem dX7_step_98 : decode cX7_step 98 = .ok (.iadd, 1) := by decide +kernel
theorem dX7_step_99 : decode cX7_step 99 = .ok (.putfield 165, 3) := by decide +kernel
theorem dX7_step_102 : decode cX7_step 102 = .ok (.iload_n 3, 1) := by decide +kernel
theorem dX7_step_103 : decode cX7_step 103 = .ok (.ireturn, 1) := by decide +kernel
theorem dX7_reached_0 : decode cX7_reached 0 = .ok (.aload_n 0, 1) := by decide +kernel
theorem dX7_reached_1 : decode cX7_reached 1 = .ok (.aload_n 0, 1) := by decide +kernel
theorem dX7_reached_2 : decode cX7_reached 2 = .ok (.getfield 165, 3) := by decide +kernel
theorem dX7_reached_5 : decode cX7_reached 5 = .ok (.ifCond .ne 7, 3) := by decide +kernel
theorem dX7_reached_8 : decode cX7_reached 8 = .ok (.iconst 1, 1) := by decide +kernel
theorem dX7_reached_9 : decode cX7_reached 9 = .ok (.goto 4, 3) := by decide +kernel
theorem dX7_reached_12 : decode cX7_reached 12 = .ok (.iconst 0, 1) := by decide +kernel
theorem dX7_reached_13 : decode cX7_reached 13 = .ok (.iconst 1, 1) := by decide +kernel
theorem dX7_reached_14 : decode cX7_reached 14 = .ok (.invokevirtual 78, 3) := by decide +kernel
theorem dX7_reached_17 : decode cX7_reached 17 = .ok (.ifCond .eq 7, 3) := by decide +kernel
theorem dX7_reached_20 : decode cX7_reached 20 = .ok (.iconst 0, 1) := by decide +kernel
theorem dX7_reached_21 : decode cX7_reached 21 = .ok (.goto 14, 3) := by decide +kernel
theorem dX7_reached_24 : decode cX7_reached 24 = .ok (.aload_n 0, 1) := by decide +kernel
theorem dX7_reached_25 : decode cX7_reached 25 = .ok (.getfield 56, 3) := by decide +kernel
theorem dX7_reached_28 : decode cX7_reached 28 = .ok (.aload_n 0, 1) := by decide +kernel
theorem dX7_reached_29 : decode cX7_reached 29 = .ok (.getfield 165, 3) := by decide +kernel
theorem dX7_reached_32 : decode cX7_reached 32 = .ok (.iconst 1, 1) := by decide +kernel
theorem dX7_reached_33 : decode cX7_reached 33 = .ok (.isub, 1) := by decide +kernel
theorem dX7_reached_34 : decode cX7_reached 34 = .ok (.iaload, 1) := by decide +kernel
theorem dX7_reached_35 : decode cX7_reached 35 = .ok (.ireturn, 1) := by decide +kernel
theorem dX7_walked_0 : decode cX7_walked 0 = .ok (.aload_n 0, 1) := by decide +kernel
theorem dX7_walked_1 : decode cX7_walked 1 = .ok (.aload_n 0, 1) := by decide +kernel
theorem dX7_walked_2 : decode cX7_walked 2 = .ok (.getfield 165, 3) := by decide +kernel
theorem dX7_walked_5 : decode cX7_walked 5 = .ok (.invokevirtual 113, 3) := by decide +kernel
theorem dX7_walked_8 : decode cX7_walked 8 = .ok (.ireturn, 1) := by decide +kernel
theorem dX7_isThrough_0 : decode cX7_isThrough 0 = .ok (.aload_n 0, 1) := by decide +kernel
theorem dX7_isThrough_1 : decode cX7_isThrough 1 = .ok (.iconst 0, 1) := by decide +kernel
theorem dX7_isThrough_2 : decode cX7_isThrough 2 = .ok (.putfield 63, 3) := by decide +kernel
theorem dX7_isThrough_5 : decode cX7_isThrough 5 = .ok (.aload_n 0, 1) := by decide +kernel
theorem dX7_isThrough_6 : decode cX7_isThrough 6 = .ok (.getfield 165, 3) := by decide +kernel
theorem dX7_isThrough_9 : decode cX7_isThrough 9 = .ok (.ifCond .le 45, 3) := by decide +kernel
theorem dX7_isThrough_12 : decode cX7_isThrough 12 = .ok (.aload_n 0, 1) := by decide +kernel
theorem dX7_isThrough_13 : decode cX7_isThrough 13 = .ok (.getfield 44, 3) := by decide +kernel
theorem dX7_isThrough_16 : decode cX7_isThrough 16 = .ok (.aload_n 0, 1) := by decide +kernel
theorem dX7_isThrough_17 : decode cX7_isThrough 17 = .ok (.getfield 56, 3) := by decide +kernel
theorem dX7_isThrough_20 : decode cX7_isThrough 20 = .ok (.aload_n 0, 1) := by decide +kernel
theorem dX7_isThrough_21 : decode cX7_isThrough 21 = .ok (.getfield 165, 3) := by decide +kernel
theorem dX7_isThrough_24 : decode cX7_isThrough 24 = .ok (.iconst 1, 1) := by decide +kernel
theorem dX7_isThrough_25 : decode cX7_isThrough 25 = .ok (.isub, 1) := by decide +kernel
theorem dX7_isThrough_26 : decode cX7_isThrough 26 = .ok (.iaload, 1) := by decide +kernel
theorem dX7_isThrough_27 : decode cX7_isThrough 27 = .ok (.baload, 1) := by decide +kernel
theorem dX7_isThrough_28 : decode cX7_isThrough 28 = .ok (.ifCond .eq 26, 3) := by decide +kernel
theorem dX7_isThrough_31 : decode cX7_isThrough 31 = .ok (.aload_n 0, 1) := by decide +kernel
theorem dX7_isThrough_32 : decode cX7_isThrough 32 = .ok (.getfield 47, 3) := by decide +kernel
theorem dX7_isThrough_35 : decode cX7_isThrough 35 = .ok (.aload_n 0, 1) := by decide +kernel
theorem dX7_isThrough_36 : decode cX7_isThrough 36 = .ok (.getfield 56, 3) := by decide +kernel
theorem dX7_isThrough_39 : decode cX7_isThrough 39 = .ok (.aload_n 0, 1) := by decide +kernel
theorem dX7_isThrough_40 : decode cX7_isThrough 40 = .ok (.getfield 165, 3) := by decide +kernel
theorem dX7_isThrough_43 : decode cX7_isThrough 43 = .ok (.iconst 1, 1) := by decide +kernel
theorem dX7_isThrough_44 : decode cX7_isThrough 44 = .ok (.isub, 1) := by decide +kernel
theorem dX7_isThrough_45 : decode cX7_isThrough 45 = .ok (.iaload, 1) := by decide +kernel
theorem dX7_isThrough_46 : decode cX7_isThrough 46 = .ok (.baload, 1) := by decide +kernel
theorem dX7_isThrough_47 : decode cX7_isThrough 47 = .ok (.ifCond .eq 7, 3) := by decide +kernel
theorem dX7_isThrough_50 : decode cX7_isThrough 50 = .ok (.iconst 1, 1) := by decide +kernel
theorem dX7_isThrough_51 : decode cX7_isThrough 51 = .ok (.goto 4, 3) := by decide +kernel
theorem dX7_isThrough_54 : decode cX7_isThrough 54 = .ok (.iconst 0, 1) := by decide +kernel
theorem dX7_isThrough_55 : decode cX7_isThrough 55 = .ok (.ireturn, 1) := by decide +kernel
theorem dX7_joined_0 : decode cX7_joined 0 = .ok (.ldc2_w 171, 3) := by decide +kernel
theorem dX7_joined_3 : decode cX7_joined 3 = .ok (.lload_n 0, 1) := by decide +kernel
theorem dX7_joined_4 : decode cX7_joined 4 = .ok (.lmul, 1) := by decide +kernel
theorem dX7_joined_5 : decode cX7_joined 5 = .ok (.ldc2_w 173, 3) := by decide +kernel
theorem dX7_joined_8 : decode cX7_joined 8 = .ok (.lload_n 2, 1) := by decide +kernel
theorem dX7_joined_9 : decode cX7_joined 9 = .ok (.lmul, 1) := by decide +kernel
theorem dX7_joined_10 : decode cX7_joined 10 = .ok (.ladd, 1) := by decide +kernel
theorem dX7_joined_11 : decode cX7_joined 11 = .ok (.ldc2_w 175, 3) := by decide +kernel
theorem dX7_joined_14 : decode cX7_joined 14 = .ok (.ladd, 1) := by decide +kernel
theorem dX7_joined_15 : decode cX7_joined 15 = .ok (.ldc2_w 177, 3) := by decide +kernel
theorem dX7_joined_18 : decode cX7_joined 18 = .ok (.lrem, 1) := by decide +kernel
theorem dX7_joined_19 : decode cX7_joined 19 = .ok (.lreturn, 1) := by decide +kernel
theorem dX7_split_0 : decode cX7_split 0 = .ok (.iconst 1, 1) := by decide +kernel
theorem dX7_split_1 : decode cX7_split 1 = .ok (.istore_n 1, 1) := by decide +kernel
theorem dX7_split_2 : decode cX7_split 2 = .ok (.iconst 2, 1) := by decide +kernel
theorem dX7_split_3 : decode cX7_split 3 = .ok (.iload_n 1, 1) := by decide +kernel
theorem dX7_split_4 : decode cX7_split 4 = .ok (.imul, 1) := by decide +kernel
theorem dX7_split_5 : decode cX7_split 5 = .ok (.iload_n 0, 1) := by decide +kernel
theorem dX7_split_6 : decode cX7_split 6 = .ok (.if_icmp .ge 10, 3) := by decide +kernel
theorem dX7_split_9 : decode cX7_split 9 = .ok (.iload_n 1, 1) := by decide +kernel
theorem dX7_split_10 : decode cX7_split 10 = .ok (.iconst 2, 1) := by decide +kernel
theorem dX7_split_11 : decode cX7_split 11 = .ok (.imul, 1) := by decide +kernel
theorem dX7_split_12 : decode cX7_split 12 = .ok (.istore_n 1, 1) := by decide +kernel
theorem dX7_split_13 : decode cX7_split 13 = .ok (.goto (-11), 3) := by decide +kernel
theorem dX7_split_16 : decode cX7_split 16 = .ok (.iload_n 1, 1) := by decide +kernel
theorem dX7_split_17 : decode cX7_split 17 = .ok (.ireturn, 1) := by decide +kernel
theorem dX7_rootFrom_0 : decode cX7_rootFrom 0 = .ok (.iload_n 2, 1) := by decide +kernel
theorem dX7_rootFrom_1 : decode cX7_rootFrom 1 = .ok (.iconst 1, 1) := by decide +kernel
theorem dX7_rootFrom_2 : decode cX7_rootFrom 2 = .ok (.if_icmp .ne 54, 3) := by decide +kernel
theorem dX7_rootFrom_5 : decode cX7_rootFrom 5 = .ok (.ldc2_w 179, 3) := by decide +kernel
theorem dX7_rootFrom_8 : decode cX7_rootFrom 8 = .ok (.iload_n 1, 1) := by decide +kernel
theorem dX7_rootFrom_9 : decode cX7_rootFrom 9 = .ok (.i2l, 1) := by decide +kernel
theorem dX7_rootFrom_10 : decode cX7_rootFrom 10 = .ok (.lmul, 1) := by decide +kernel
theorem dX7_rootFrom_11 : decode cX7_rootFrom 11 = .ok (.ldc2_w 181, 3) := by decide +kernel
theorem dX7_rootFrom_14 : decode cX7_rootFrom 14 = .ok (.aload_n 0, 1) := by decide +kernel
theorem dX7_rootFrom_15 : decode cX7_rootFrom 15 = .ok (.getfield 9, 3) := by decide +kernel
theorem dX7_rootFrom_18 : decode cX7_rootFrom 18 = .ok (.iload_n 1, 1) := by decide +kernel
theorem dX7_rootFrom_19 : decode cX7_rootFrom 19 = .ok (.iaload, 1) := by decide +kernel
theorem dX7_rootFrom_20 : decode cX7_rootFrom 20 = .ok (.i2l, 1) := by decide +kernel
theorem dX7_rootFrom_21 : decode cX7_rootFrom 21 = .ok (.lmul, 1) := by decide +kernel
theorem dX7_rootFrom_22 : decode cX7_rootFrom 22 = .ok (.ladd, 1) := by decide +kernel
theorem dX7_rootFrom_23 : decode cX7_rootFrom 23 = .ok (.ldc2_w 183, 3) := by decide +kernel
theorem dX7_rootFrom_26 : decode cX7_rootFrom 26 = .ok (.aload_n 0, 1) := by decide +kernel
theorem dX7_rootFrom_27 : decode cX7_rootFrom 27 = .ok (.getfield 13, 3) := by decide +kernel
theorem dX7_rootFrom_30 : decode cX7_rootFrom 30 = .ok (.iload_n 1, 1) := by decide +kernel
theorem dX7_rootFrom_31 : decode cX7_rootFrom 31 = .ok (.iaload, 1) := by decide +kernel
theorem dX7_rootFrom_32 : decode cX7_rootFrom 32 = .ok (.i2l, 1) := by decide +kernel
theorem dX7_rootFrom_33 : decode cX7_rootFrom 33 = .ok (.lmul, 1) := by decide +kernel
theorem dX7_rootFrom_34 : decode cX7_rootFrom 34 = .ok (.ladd, 1) := by decide +kernel
theorem dX7_rootFrom_35 : decode cX7_rootFrom 35 = .ok (.ldc2_w 185, 3) := by decide +kernel
theorem dX7_rootFrom_38 : decode cX7_rootFrom 38 = .ok (.aload_n 0, 1) := by decide +kernel
theorem dX7_rootFrom_39 : decode cX7_rootFrom 39 = .ok (.getfield 25, 3) := by decide +kernel
theorem dX7_rootFrom_42 : decode cX7_rootFrom 42 = .ok (.iload_n 1, 1) := by decide +kernel
theorem dX7_rootFrom_43 : decode cX7_rootFrom 43 = .ok (.iaload, 1) := by decide +kernel
theorem dX7_rootFrom_44 : decode cX7_rootFrom 44 = .ok (.i2l, 1) := by decide +kernel
theorem dX7_rootFrom_45 : decode cX7_rootFrom 45 = .ok (.lmul, 1) := by decide +kernel
theorem dX7_rootFrom_46 : decode cX7_rootFrom 46 = .ok (.ladd, 1) := by decide +kernel
theorem dX7_rootFrom_47 : decode cX7_rootFrom 47 = .ok (.ldc2_w 187, 3) := by decide +kernel
theorem dX7_rootFrom_50 : decode cX7_rootFrom 50 = .ok (.ladd, 1) := by decide +kernel
theorem dX7_rootFrom_51 : decode cX7_rootFrom 51 = .ok (.ldc2_w 177, 3) := by decide +kernel
theorem dX7_rootFrom_54 : decode cX7_rootFrom 54 = .ok (.lrem, 1) := by decide +kernel
theorem dX7_rootFrom_55 : decode cX7_rootFrom 55 = .ok (.lreturn, 1) := by decide +kernel
theorem dX7_rootFrom_56 : decode cX7_rootFrom 56 = .ok (.iload_n 2, 1) := by decide +kernel
theorem dX7_rootFrom_57 : decode cX7_rootFrom 57 = .ok (.invokestatic 189, 3) := by decide +kernel
theorem dX7_rootFrom_60 : decode cX7_rootFrom 60 = .ok (.istore_n 3, 1) := by decide +kernel
theorem dX7_rootFrom_61 : decode cX7_rootFrom 61 = .ok (.aload_n 0, 1) := by decide +kernel
theorem dX7_rootFrom_62 : decode cX7_rootFrom 62 = .ok (.iload_n 1, 1) := by decide +kernel
theorem dX7_rootFrom_63 : decode cX7_rootFrom 63 = .ok (.iload_n 3, 1) := by decide +kernel
theorem dX7_rootFrom_64 : decode cX7_rootFrom 64 = .ok (.invokevirtual 192, 3) := by decide +kernel
theorem dX7_rootFrom_67 : decode cX7_rootFrom 67 = .ok (.aload_n 0, 1) := by decide +kernel
theorem dX7_rootFrom_68 : decode cX7_rootFrom 68 = .ok (.iload_n 1, 1) := by decide +kernel
theorem dX7_rootFrom_69 : decode cX7_rootFrom 69 = .ok (.iload_n 3, 1) := by decide +kernel
theorem dX7_rootFrom_70 : decode cX7_rootFrom 70 = .ok (.iadd, 1) := by decide +kernel
theorem dX7_rootFrom_71 : decode cX7_rootFrom 71 = .ok (.iload_n 2, 1) := by decide +kernel
theorem dX7_rootFrom_72 : decode cX7_rootFrom 72 = .ok (.iload_n 3, 1) := by decide +kernel
theorem dX7_rootFrom_73 : decode cX7_rootFrom 73 = .ok (.isub, 1) := by decide +kernel
theorem dX7_rootFrom_74 : decode cX7_rootFrom 74 = .ok (.invokevirtual 192, 3) := by decide +kernel
theorem dX7_rootFrom_77 : decode cX7_rootFrom 77 = .ok (.invokestatic 196, 3) := by decide +kernel
theorem dX7_rootFrom_80 : decode cX7_rootFrom 80 = .ok (.lreturn, 1) := by decide +kernel
theorem dX7_isNoSize_0 : decode cX7_isNoSize 0 = .ok (.aload_n 0, 1) := by decide +kernel
theorem dX7_isNoSize_1 : decode cX7_isNoSize 1 = .ok (.iload_n 1, 1) := by decide +kernel
theorem dX7_isNoSize_2 : decode cX7_isNoSize 2 = .ok (.iconst 1, 1) := by decide +kernel
theorem dX7_isNoSize_3 : decode cX7_isNoSize 3 = .ok (.aload_n 0, 1) := by decide +kernel
theorem dX7_isNoSize_4 : decode cX7_isNoSize 4 = .ok (.getfield 71, 3) := by decide +kernel
theorem dX7_isNoSize_7 : decode cX7_isNoSize 7 = .ok (.invokestatic 67, 3) := by decide +kernel
theorem dX7_isNoSize_10 : decode cX7_isNoSize 10 = .ok (.ifCond .ne 7, 3) := by decide +kernel
theorem dX7_isNoSize_13 : decode cX7_isNoSize 13 = .ok (.iconst 1, 1) := by decide +kernel
theorem dX7_isNoSize_14 : decode cX7_isNoSize 14 = .ok (.goto 4, 3) := by decide +kernel
theorem dX7_isNoSize_17 : decode cX7_isNoSize 17 = .ok (.iconst 0, 1) := by decide +kernel
theorem dX7_isNoSize_18 : decode cX7_isNoSize 18 = .ok (.iconst 1, 1) := by decide +kernel
theorem dX7_isNoSize_19 : decode cX7_isNoSize 19 = .ok (.invokevirtual 78, 3) := by decide +kernel
theorem dX7_isNoSize_22 : decode cX7_isNoSize 22 = .ok (.ireturn, 1) := by decide +kernel
theorem dX7_rootOf_0 : decode cX7_rootOf 0 = .ok (.aload_n 0, 1) := by decide +kernel
theorem dX7_rootOf_1 : decode cX7_rootOf 1 = .ok (.iload_n 1, 1) := by decide +kernel
theorem dX7_rootOf_2 : decode cX7_rootOf 2 = .ok (.invokevirtual 200, 3) := by decide +kernel
theorem dX7_rootOf_5 : decode cX7_rootOf 5 = .ok (.ifCond .eq 7, 3) := by decide +kernel
theorem dX7_rootOf_8 : decode cX7_rootOf 8 = .ok (.lconst 0, 1) := by decide +kernel
theorem dX7_rootOf_9 : decode cX7_rootOf 9 = .ok (.goto 9, 3) := by decide +kernel
theorem dX7_rootOf_12 : decode cX7_rootOf 12 = .ok (.aload_n 0, 1) := by decide +kernel
theorem dX7_rootOf_13 : decode cX7_rootOf 13 = .ok (.iconst 0, 1) := by decide +kernel
theorem dX7_rootOf_14 : decode cX7_rootOf 14 = .ok (.iload_n 1, 1) := by decide +kernel
theorem dX7_rootOf_15 : decode cX7_rootOf 15 = .ok (.invokevirtual 192, 3) := by decide +kernel
theorem dX7_rootOf_18 : decode cX7_rootOf 18 = .ok (.lreturn, 1) := by decide +kernel
theorem dX7_rootByJoining_0 : decode cX7_rootByJoining 0 = .ok (.aload_n 0, 1) := by decide +kernel
theorem dX7_rootByJoining_1 : decode cX7_rootByJoining 1 = .ok (.iload_n 1, 1) := by decide +kernel
theorem dX7_rootByJoining_2 : decode cX7_rootByJoining 2 = .ok (.invokevirtual 203, 3) := by decide +kernel
theorem dX7_rootByJoining_5 : decode cX7_rootByJoining 5 = .ok (.lreturn, 1) := by decide +kernel
theorem dX7_adds_0 : decode cX7_adds 0 = .ok (.aload_n 0, 1) := by decide +kernel
theorem dX7_adds_1 : decode cX7_adds 1 = .ok (.getfield 59, 3) := by decide +kernel
theorem dX7_adds_4 : decode cX7_adds 4 = .ok (.aload_n 0, 1) := by decide +kernel
theorem dX7_adds_5 : decode cX7_adds 5 = .ok (.getfield 207, 3) := by decide +kernel
theorem dX7_adds_8 : decode cX7_adds 8 = .ok (.lload_n 1, 1) := by decide +kernel
theorem dX7_adds_9 : decode cX7_adds 9 = .ok (.lastore, 1) := by decide +kernel
theorem dX7_adds_10 : decode cX7_adds 10 = .ok (.aload_n 0, 1) := by decide +kernel
theorem dX7_adds_11 : decode cX7_adds 11 = .ok (.dup, 1) := by decide +kernel
theorem dX7_adds_12 : decode cX7_adds 12 = .ok (.getfield 207, 3) := by decide +kernel
theorem dX7_adds_15 : decode cX7_adds 15 = .ok (.iconst 1, 1) := by decide +kernel
theorem dX7_adds_16 : decode cX7_adds 16 = .ok (.iadd, 1) := by decide +kernel
theorem dX7_adds_17 : decode cX7_adds 17 = .ok (.putfield 207, 3) := by decide +kernel
theorem dX7_adds_20 : decode cX7_adds 20 = .ok (.return_, 1) := by decide +kernel
theorem dX7_proves_0 : decode cX7_proves 0 = .ok (.iload_n 3, 1) := by decide +kernel
theorem dX7_proves_1 : decode cX7_proves 1 = .ok (.iconst 1, 1) := by decide +kernel
theorem dX7_proves_2 : decode cX7_proves 2 = .ok (.if_icmp .le 68, 3) := by decide +kernel
theorem dX7_proves_5 : decode cX7_proves 5 = .ok (.iload_n 3, 1) := by decide +kernel
theorem dX7_proves_6 : decode cX7_proves 6 = .ok (.invokestatic 189, 3) := by decide +kernel
theorem dX7_proves_9 : decode cX7_proves 9 = .ok (.istore 4, 2) := by decide +kernel
theorem dX7_proves_11 : decode cX7_proves 11 = .ok (.iload_n 1, 1) := by decide +kernel
theorem dX7_proves_12 : decode cX7_proves 12 = .ok (.iload_n 2, 1) := by decide +kernel
theorem dX7_proves_13 : decode cX7_proves 13 = .ok (.iload 4, 2) := by decide +kernel
theorem dX7_proves_15 : decode cX7_proves 15 = .ok (.iadd, 1) := by decide +kernel
theorem dX7_proves_16 : decode cX7_proves 16 = .ok (.if_icmp .ge 30, 3) := by decide +kernel
theorem dX7_proves_19 : decode cX7_proves 19 = .ok (.aload_n 0, 1) := by decide +kernel
theorem dX7_proves_20 : decode cX7_proves 20 = .ok (.iload_n 1, 1) := by decide +kernel
theorem dX7_proves_21 : decode cX7_proves 21 = .ok (.iload_n 2, 1) := by decide +kernel
theorem dX7_proves_22 : decode cX7_proves 22 = .ok (.iload 4, 2) := by decide +kernel
theorem dX7_proves_24 : decode cX7_proves 24 = .ok (.invokevirtual 210, 3) := by decide +kernel
theorem dX7_proves_27 : decode cX7_proves 27 = .ok (.aload_n 0, 1) := by decide +kernel
theorem dX7_proves_28 : decode cX7_proves 28 = .ok (.aload_n 0, 1) := by decide +kernel
theorem dX7_proves_29 : decode cX7_proves 29 = .ok (.iload_n 2, 1) := by decide +kernel
theorem dX7_proves_30 : decode cX7_proves 30 = .ok (.iload 4, 2) := by decide +kernel
theorem dX7_proves_32 : decode cX7_proves 32 = .ok (.iadd, 1) := by decide +kernel
theorem dX7_proves_33 : decode cX7_proves 33 = .ok (.iload_n 3, 1) := by decide +kernel
theorem dX7_proves_34 : decode cX7_proves 34 = .ok (.iload 4, 2) := by decide +kernel
theorem dX7_proves_36 : decode cX7_proves 36 = .ok (.isub, 1) := by decide +kernel
theorem dX7_proves_37 : decode cX7_proves 37 = .ok (.invokevirtual 192, 3) := by decide +kernel
theorem dX7_proves_40 : decode cX7_proves 40 = .ok (.invokevirtual 214, 3) := by decide +kernel
theorem dX7_proves_43 : decode cX7_proves 43 = .ok (.goto 27, 3) := by decide +kernel
theorem dX7_proves_46 : decode cX7_proves 46 = .ok (.aload_n 0, 1) := by decide +kernel
theorem dX7_proves_47 : decode cX7_proves 47 = .ok (.iload_n 1, 1) := by decide +kernel
theorem dX7_proves_48 : decode cX7_proves 48 = .ok (.iload_n 2, 1) := by decide +kernel
theorem dX7_proves_49 : decode cX7_proves 49 = .ok (.iload 4, 2) := by decide +kernel
theorem dX7_proves_51 : decode cX7_proves 51 = .ok (.iadd, 1) := by decide +kernel
theorem dX7_proves_52 : decode cX7_proves 52 = .ok (.iload_n 3, 1) := by decide +kernel
theorem dX7_proves_53 : decode cX7_proves 53 = .ok (.iload 4, 2) := by decide +kernel
theorem dX7_proves_55 : decode cX7_proves 55 = .ok (.isub, 1) := by decide +kernel
theorem dX7_proves_56 : decode cX7_proves 56 = .ok (.invokevirtual 210, 3) := by decide +kernel
theorem dX7_proves_59 : decode cX7_proves 59 = .ok (.aload_n 0, 1) := by decide +kernel
theorem dX7_proves_60 : decode cX7_proves 60 = .ok (.aload_n 0, 1) := by decide +kernel
theorem dX7_proves_61 : decode cX7_proves 61 = .ok (.iload_n 2, 1) := by decide +kernel
theorem dX7_proves_62 : decode cX7_proves 62 = .ok (.iload 4, 2) := by decide +kernel
theorem dX7_proves_64 : decode cX7_proves 64 = .ok (.invokevirtual 192, 3) := by decide +kernel
theorem dX7_proves_67 : decode cX7_proves 67 = .ok (.invokevirtual 214, 3) := by decide +kernel
theorem dX7_proves_70 : decode cX7_proves 70 = .ok (.return_, 1) := by decide +kernel
theorem dX7_isProof_0 : decode cX7_isProof 0 = .ok (.aload_n 0, 1) := by decide +kernel
theorem dX7_isProof_1 : decode cX7_isProof 1 = .ok (.iload_n 2, 1) := by decide +kernel
theorem dX7_isProof_2 : decode cX7_isProof 2 = .ok (.invokevirtual 200, 3) := by decide +kernel
theorem dX7_isProof_5 : decode cX7_isProof 5 = .ok (.ifCond .ne 27, 3) := by decide +kernel
theorem dX7_isProof_8 : decode cX7_isProof 8 = .ok (.aload_n 0, 1) := by decide +kernel
theorem dX7_isProof_9 : decode cX7_isProof 9 = .ok (.iload_n 1, 1) := by decide +kernel
theorem dX7_isProof_10 : decode cX7_isProof 10 = .ok (.iconst 0, 1) := by decide +kernel
theorem dX7_isProof_11 : decode cX7_isProof 11 = .ok (.iload_n 2, 1) := by decide +kernel
theorem dX7_isProof_12 : decode cX7_isProof 12 = .ok (.iconst 1, 1) := by decide +kernel
theorem dX7_isProof_13 : decode cX7_isProof 13 = .ok (.isub, 1) := by decide +kernel
theorem dX7_isProof_14 : decode cX7_isProof 14 = .ok (.invokestatic 67, 3) := by decide +kernel
theorem dX7_isProof_17 : decode cX7_isProof 17 = .ok (.ifCond .ne 7, 3) := by decide +kernel
theorem dX7_isProof_20 : decode cX7_isProof 20 = .ok (.iconst 1, 1) := by decide +kernel
theorem dX7_isProof_21 : decode cX7_isProof 21 = .ok (.goto 4, 3) := by decide +kernel
theorem dX7_isProof_24 : decode cX7_isProof 24 = .ok (.iconst 0, 1) := by decide +kernel
theorem dX7_isProof_25 : decode cX7_isProof 25 = .ok (.iconst 2, 1) := by decide +kernel
theorem dX7_isProof_26 : decode cX7_isProof 26 = .ok (.invokevirtual 78, 3) := by decide +kernel
theorem dX7_isProof_29 : decode cX7_isProof 29 = .ok (.ifCond .eq 5, 3) := by decide +kernel
theorem dX7_isProof_32 : decode cX7_isProof 32 = .ok (.iconst 0, 1) := by decide +kernel
theorem dX7_isProof_33 : decode cX7_isProof 33 = .ok (.ireturn, 1) := by decide +kernel
theorem dX7_isProof_34 : decode cX7_isProof 34 = .ok (.aload_n 0, 1) := by decide +kernel
theorem dX7_isProof_35 : decode cX7_isProof 35 = .ok (.iconst 0, 1) := by decide +kernel
theorem dX7_isProof_36 : decode cX7_isProof 36 = .ok (.putfield 207, 3) := by decide +kernel
theorem dX7_isProof_39 : decode cX7_isProof 39 = .ok (.aload_n 0, 1) := by decide +kernel
theorem dX7_isProof_40 : decode cX7_isProof 40 = .ok (.iload_n 1, 1) := by decide +kernel
theorem dX7_isProof_41 : decode cX7_isProof 41 = .ok (.iconst 0, 1) := by decide +kernel
theorem dX7_isProof_42 : decode cX7_isProof 42 = .ok (.iload_n 2, 1) := by decide +kernel
theorem dX7_isProof_43 : decode cX7_isProof 43 = .ok (.invokevirtual 210, 3) := by decide +kernel
theorem dX7_isProof_46 : decode cX7_isProof 46 = .ok (.iconst 1, 1) := by decide +kernel
theorem dX7_isProof_47 : decode cX7_isProof 47 = .ok (.ireturn, 1) := by decide +kernel
theorem dX7_rowAt_0 : decode cX7_rowAt 0 = .ok (.aload_n 0, 1) := by decide +kernel
theorem dX7_rowAt_1 : decode cX7_rowAt 1 = .ok (.iload_n 1, 1) := by decide +kernel
theorem dX7_rowAt_2 : decode cX7_rowAt 2 = .ok (.iconst 0, 1) := by decide +kernel
theorem dX7_rowAt_3 : decode cX7_rowAt 3 = .ok (.aload_n 0, 1) := by decide +kernel
theorem dX7_rowAt_4 : decode cX7_rowAt 4 = .ok (.getfield 207, 3) := by decide +kernel
theorem dX7_rowAt_7 : decode cX7_rowAt 7 = .ok (.iconst 1, 1) := by decide +kernel
theorem dX7_rowAt_8 : decode cX7_rowAt 8 = .ok (.isub, 1) := by decide +kernel
theorem dX7_rowAt_9 : decode cX7_rowAt 9 = .ok (.invokestatic 67, 3) := by decide +kernel
theorem dX7_rowAt_12 : decode cX7_rowAt 12 = .ok (.ifCond .ne 7, 3) := by decide +kernel
theorem dX7_rowAt_15 : decode cX7_rowAt 15 = .ok (.iconst 1, 1) := by decide +kernel
theorem dX7_rowAt_16 : decode cX7_rowAt 16 = .ok (.goto 4, 3) := by decide +kernel
theorem dX7_rowAt_19 : decode cX7_rowAt 19 = .ok (.iconst 0, 1) := by decide +kernel
theorem dX7_rowAt_20 : decode cX7_rowAt 20 = .ok (.iconst 2, 1) := by decide +kernel
theorem dX7_rowAt_21 : decode cX7_rowAt 21 = .ok (.invokevirtual 78, 3) := by decide +kernel
theorem dX7_rowAt_24 : decode cX7_rowAt 24 = .ok (.ifCond .eq 7, 3) := by decide +kernel
theorem dX7_rowAt_27 : decode cX7_rowAt 27 = .ok (.lconst 0, 1) := by decide +kernel
theorem dX7_rowAt_28 : decode cX7_rowAt 28 = .ok (.goto 9, 3) := by decide +kernel
theorem dX7_rowAt_31 : decode cX7_rowAt 31 = .ok (.aload_n 0, 1) := by decide +kernel
theorem dX7_rowAt_32 : decode cX7_rowAt 32 = .ok (.getfield 59, 3) := by decide +kernel
theorem dX7_rowAt_35 : decode cX7_rowAt 35 = .ok (.iload_n 1, 1) := by decide +kernel
theorem dX7_rowAt_36 : decode cX7_rowAt 36 = .ok (.laload, 1) := by decide +kernel
theorem dX7_rowAt_37 : decode cX7_rowAt 37 = .ok (.lreturn, 1) := by decide +kernel
theorem dX7_proofSize_0 : decode cX7_proofSize 0 = .ok (.aload_n 0, 1) := by decide +kernel
theorem dX7_proofSize_1 : decode cX7_proofSize 1 = .ok (.iload_n 1, 1) := by decide +kernel
theorem dX7_proofSize_2 : decode cX7_proofSize 2 = .ok (.iload_n 2, 1) := by decide +kernel
theorem dX7_proofSize_3 : decode cX7_proofSize 3 = .ok (.invokevirtual 218, 3) := by decide +kernel
theorem dX7_proofSize_6 : decode cX7_proofSize 6 = .ok (.ifCond .eq 10, 3) := by decide +kernel
theorem dX7_proofSize_9 : decode cX7_proofSize 9 = .ok (.aload_n 0, 1) := by decide +kernel
theorem dX7_proofSize_10 : decode cX7_proofSize 10 = .ok (.getfield 207, 3) := by decide +kernel
theorem dX7_proofSize_13 : decode cX7_proofSize 13 = .ok (.goto 4, 3) := by decide +kernel
theorem dX7_proofSize_16 : decode cX7_proofSize 16 = .ok (.iconst 0, 1) := by decide +kernel
theorem dX7_proofSize_17 : decode cX7_proofSize 17 = .ok (.ireturn, 1) := by decide +kernel
theorem dX7_proofAt_0 : decode cX7_proofAt 0 = .ok (.aload_n 0, 1) := by decide +kernel
theorem dX7_proofAt_1 : decode cX7_proofAt 1 = .ok (.iload_n 1, 1) := by decide +kernel
theorem dX7_proofAt_2 : decode cX7_proofAt 2 = .ok (.iload_n 2, 1) := by decide +kernel
theorem dX7_proofAt_3 : decode cX7_proofAt 3 = .ok (.invokevirtual 218, 3) := by decide +kernel
theorem dX7_proofAt_6 : decode cX7_proofAt 6 = .ok (.ifCond .eq 11, 3) := by decide +kernel
theorem dX7_proofAt_9 : decode cX7_proofAt 9 = .ok (.aload_n 0, 1) := by decide +kernel
theorem dX7_proofAt_10 : decode cX7_proofAt 10 = .ok (.iload_n 3, 1) := by decide +kernel
theorem dX7_proofAt_11 : decode cX7_proofAt 11 = .ok (.invokevirtual 221, 3) := by decide +kernel
theorem dX7_proofAt_14 : decode cX7_proofAt 14 = .ok (.goto 4, 3) := by decide +kernel
theorem dX7_proofAt_17 : decode cX7_proofAt 17 = .ok (.lconst 0, 1) := by decide +kernel
theorem dX7_proofAt_18 : decode cX7_proofAt 18 = .ok (.lreturn, 1) := by decide +kernel
theorem dX7_rootByProof_0 : decode cX7_rootByProof 0 = .ok (.aload_n 0, 1) := by decide +kernel
theorem dX7_rootByProof_1 : decode cX7_rootByProof 1 = .ok (.iload_n 1, 1) := by decide +kernel
theorem dX7_rootByProof_2 : decode cX7_rootByProof 2 = .ok (.iload_n 2, 1) := by decide +kernel
theorem dX7_rootByProof_3 : decode cX7_rootByProof 3 = .ok (.invokevirtual 218, 3) := by decide +kernel
theorem dX7_rootByProof_6 : decode cX7_rootByProof 6 = .ok (.ifCond .eq 12, 3) := by decide +kernel
theorem dX7_rootByProof_9 : decode cX7_rootByProof 9 = .ok (.aload_n 0, 1) := by decide +kernel
theorem dX7_rootByProof_10 : decode cX7_rootByProof 10 = .ok (.iconst 0, 1) := by decide +kernel
theorem dX7_rootByProof_11 : decode cX7_rootByProof 11 = .ok (.iload_n 2, 1) := by decide +kernel
theorem dX7_rootByProof_12 : decode cX7_rootByProof 12 = .ok (.invokevirtual 192, 3) := by decide +kernel
theorem dX7_rootByProof_15 : decode cX7_rootByProof 15 = .ok (.goto 4, 3) := by decide +kernel
theorem dX7_rootByProof_18 : decode cX7_rootByProof 18 = .ok (.lconst 0, 1) := by decide +kernel
theorem dX7_rootByProof_19 : decode cX7_rootByProof 19 = .ok (.lreturn, 1) := by decide +kernel
theorem dX7_grows_0 : decode cX7_grows 0 = .ok (.iload_n 1, 1) := by decide +kernel
theorem dX7_grows_1 : decode cX7_grows 1 = .ok (.iload_n 2, 1) := by decide +kernel
theorem dX7_grows_2 : decode cX7_grows 2 = .ok (.iload_n 3, 1) := by decide +kernel
theorem dX7_grows_3 : decode cX7_grows 3 = .ok (.iadd, 1) := by decide +kernel
theorem dX7_grows_4 : decode cX7_grows 4 = .ok (.if_icmp .ne 18, 3) := by decide +kernel
theorem dX7_grows_7 : decode cX7_grows 7 = .ok (.iload_n 2, 1) := by decide +kernel
theorem dX7_grows_8 : decode cX7_grows 8 = .ok (.ifCond .le 13, 3) := by decide +kernel
theorem dX7_grows_11 : decode cX7_grows 11 = .ok (.aload_n 0, 1) := by decide +kernel
theorem dX7_grows_12 : decode cX7_grows 12 = .ok (.aload_n 0, 1) := by decide +kernel
theorem dX7_grows_13 : decode cX7_grows 13 = .ok (.iload_n 2, 1) := by decide +kernel
theorem dX7_grows_14 : decode cX7_grows 14 = .ok (.iload_n 3, 1) := by decide +kernel
theorem dX7_grows_15 : decode cX7_grows 15 = .ok (.invokevirtual 192, 3) := by decide +kernel
theorem dX7_grows_18 : decode cX7_grows 18 = .ok (.invokevirtual 214, 3) := by decide +kernel
theorem dX7_grows_21 : decode cX7_grows 21 = .ok (.return_, 1) := by decide +kernel
theorem dX7_grows_22 : decode cX7_grows 22 = .ok (.iload_n 3, 1) := by decide +kernel
theorem dX7_grows_23 : decode cX7_grows 23 = .ok (.invokestatic 189, 3) := by decide +kernel
theorem dX7_grows_26 : decode cX7_grows 26 = .ok (.istore 4, 2) := by decide +kernel
theorem dX7_grows_28 : decode cX7_grows 28 = .ok (.iload_n 1, 1) := by decide +kernel
theorem dX7_grows_29 : decode cX7_grows 29 = .ok (.iload_n 2, 1) := by decide +kernel
theorem dX7_grows_30 : decode cX7_grows 30 = .ok (.iload 4, 2) := by decide +kernel
theorem dX7_grows_32 : decode cX7_grows 32 = .ok (.iadd, 1) := by decide +kernel
theorem dX7_grows_33 : decode cX7_grows 33 = .ok (.if_icmp .gt 30, 3) := by decide +kernel
theorem dX7_grows_36 : decode cX7_grows 36 = .ok (.aload_n 0, 1) := by decide +kernel
theorem dX7_grows_37 : decode cX7_grows 37 = .ok (.iload_n 1, 1) := by decide +kernel
theorem dX7_grows_38 : decode cX7_grows 38 = .ok (.iload_n 2, 1) := by decide +kernel
theorem dX7_grows_39 : decode cX7_grows 39 = .ok (.iload 4, 2) := by decide +kernel
theorem dX7_grows_41 : decode cX7_grows 41 = .ok (.invokevirtual 224, 3) := by decide +kernel
theorem dX7_grows_44 : decode cX7_grows 44 = .ok (.aload_n 0, 1) := by decide +kernel
theorem dX7_grows_45 : decode cX7_grows 45 = .ok (.aload_n 0, 1) := by decide +kernel
theorem dX7_grows_46 : decode cX7_grows 46 = .ok (.iload_n 2, 1) := by decide +kernel
theorem dX7_grows_47 : decode cX7_grows 47 = .ok (.iload 4, 2) := by decide +kernel
theorem dX7_grows_49 : decode cX7_grows 49 = .ok (.iadd, 1) := by decide +kernel
theorem dX7_grows_50 : decode cX7_grows 50 = .ok (.iload_n 3, 1) := by decide +kernel
theorem dX7_grows_51 : decode cX7_grows 51 = .ok (.iload 4, 2) := by decide +kernel
theorem dX7_grows_53 : decode cX7_grows 53 = .ok (.isub, 1) := by decide +kernel
theorem dX7_grows_54 : decode cX7_grows 54 = .ok (.invokevirtual 192, 3) := by decide +kernel
theorem dX7_grows_57 : decode cX7_grows 57 = .ok (.invokevirtual 214, 3) := by decide +kernel
theorem dX7_grows_60 : decode cX7_grows 60 = .ok (.goto 27, 3) := by decide +kernel
theorem dX7_grows_63 : decode cX7_grows 63 = .ok (.aload_n 0, 1) := by decide +kernel
theorem dX7_grows_64 : decode cX7_grows 64 = .ok (.iload_n 1, 1) := by decide +kernel
theorem dX7_grows_65 : decode cX7_grows 65 = .ok (.iload_n 2, 1) := by decide +kernel
theorem dX7_grows_66 : decode cX7_grows 66 = .ok (.iload 4, 2) := by decide +kernel
theorem dX7_grows_68 : decode cX7_grows 68 = .ok (.iadd, 1) := by decide +kernel
theorem dX7_grows_69 : decode cX7_grows 69 = .ok (.iload_n 3, 1) := by decide +kernel
theorem dX7_grows_70 : decode cX7_grows 70 = .ok (.iload 4, 2) := by decide +kernel
theorem dX7_grows_72 : decode cX7_grows 72 = .ok (.isub, 1) := by decide +kernel
theorem dX7_grows_73 : decode cX7_grows 73 = .ok (.invokevirtual 224, 3) := by decide +kernel
theorem dX7_grows_76 : decode cX7_grows 76 = .ok (.aload_n 0, 1) := by decide +kernel
theorem dX7_grows_77 : decode cX7_grows 77 = .ok (.aload_n 0, 1) := by decide +kernel
theorem dX7_grows_78 : decode cX7_grows 78 = .ok (.iload_n 2, 1) := by decide +kernel
theorem dX7_grows_79 : decode cX7_grows 79 = .ok (.iload 4, 2) := by decide +kernel
theorem dX7_grows_81 : decode cX7_grows 81 = .ok (.invokevirtual 192, 3) := by decide +kernel
theorem dX7_grows_84 : decode cX7_grows 84 = .ok (.invokevirtual 214, 3) := by decide +kernel
theorem dX7_grows_87 : decode cX7_grows 87 = .ok (.return_, 1) := by decide +kernel
theorem dX7_isGrowth_0 : decode cX7_isGrowth 0 = .ok (.aload_n 0, 1) := by decide +kernel
theorem dX7_isGrowth_1 : decode cX7_isGrowth 1 = .ok (.iload_n 2, 1) := by decide +kernel
theorem dX7_isGrowth_2 : decode cX7_isGrowth 2 = .ok (.invokevirtual 200, 3) := by decide +kernel
theorem dX7_isGrowth_5 : decode cX7_isGrowth 5 = .ok (.ifCond .ne 25, 3) := by decide +kernel
theorem dX7_isGrowth_8 : decode cX7_isGrowth 8 = .ok (.aload_n 0, 1) := by decide +kernel
theorem dX7_isGrowth_9 : decode cX7_isGrowth 9 = .ok (.iload_n 1, 1) := by decide +kernel
theorem dX7_isGrowth_10 : decode cX7_isGrowth 10 = .ok (.iconst 1, 1) := by decide +kernel
theorem dX7_isGrowth_11 : decode cX7_isGrowth 11 = .ok (.iload_n 2, 1) := by decide +kernel
theorem dX7_isGrowth_12 : decode cX7_isGrowth 12 = .ok (.invokestatic 67, 3) := by decide +kernel
theorem dX7_isGrowth_15 : decode cX7_isGrowth 15 = .ok (.ifCond .ne 7, 3) := by decide +kernel
theorem dX7_isGrowth_18 : decode cX7_isGrowth 18 = .ok (.iconst 1, 1) := by decide +kernel
theorem dX7_isGrowth_19 : decode cX7_isGrowth 19 = .ok (.goto 4, 3) := by decide +kernel
theorem dX7_isGrowth_22 : decode cX7_isGrowth 22 = .ok (.iconst 0, 1) := by decide +kernel
theorem dX7_isGrowth_23 : decode cX7_isGrowth 23 = .ok (.iconst 2, 1) := by decide +kernel
theorem dX7_isGrowth_24 : decode cX7_isGrowth 24 = .ok (.invokevirtual 78, 3) := by decide +kernel
theorem dX7_isGrowth_27 : decode cX7_isGrowth 27 = .ok (.ifCond .eq 5, 3) := by decide +kernel
theorem dX7_isGrowth_30 : decode cX7_isGrowth 30 = .ok (.iconst 0, 1) := by decide +kernel
theorem dX7_isGrowth_31 : decode cX7_isGrowth 31 = .ok (.ireturn, 1) := by decide +kernel
theorem dX7_isGrowth_32 : decode cX7_isGrowth 32 = .ok (.aload_n 0, 1) := by decide +kernel
theorem dX7_isGrowth_33 : decode cX7_isGrowth 33 = .ok (.iconst 0, 1) := by decide +kernel
theorem dX7_isGrowth_34 : decode cX7_isGrowth 34 = .ok (.putfield 207, 3) := by decide +kernel
theorem dX7_isGrowth_37 : decode cX7_isGrowth 37 = .ok (.aload_n 0, 1) := by decide +kernel
theorem dX7_isGrowth_38 : decode cX7_isGrowth 38 = .ok (.iload_n 1, 1) := by decide +kernel
theorem dX7_isGrowth_39 : decode cX7_isGrowth 39 = .ok (.iconst 0, 1) := by decide +kernel
theorem dX7_isGrowth_40 : decode cX7_isGrowth 40 = .ok (.iload_n 2, 1) := by decide +kernel
theorem dX7_isGrowth_41 : decode cX7_isGrowth 41 = .ok (.invokevirtual 224, 3) := by decide +kernel
theorem dX7_isGrowth_44 : decode cX7_isGrowth 44 = .ok (.iconst 1, 1) := by decide +kernel
theorem dX7_isGrowth_45 : decode cX7_isGrowth 45 = .ok (.ireturn, 1) := by decide +kernel
theorem dX7_growthSize_0 : decode cX7_growthSize 0 = .ok (.aload_n 0, 1) := by decide +kernel
theorem dX7_growthSize_1 : decode cX7_growthSize 1 = .ok (.iload_n 1, 1) := by decide +kernel
theorem dX7_growthSize_2 : decode cX7_growthSize 2 = .ok (.iload_n 2, 1) := by decide +kernel
theorem dX7_growthSize_3 : decode cX7_growthSize 3 = .ok (.invokevirtual 227, 3) := by decide +kernel
theorem dX7_growthSize_6 : decode cX7_growthSize 6 = .ok (.ifCond .eq 10, 3) := by decide +kernel
theorem dX7_growthSize_9 : decode cX7_growthSize 9 = .ok (.aload_n 0, 1) := by decide +kernel
theorem dX7_growthSize_10 : decode cX7_growthSize 10 = .ok (.getfield 207, 3) := by decide +kernel
theorem dX7_growthSize_13 : decode cX7_growthSize 13 = .ok (.goto 4, 3) := by decide +kernel
theorem dX7_growthSize_16 : decode cX7_growthSize 16 = .ok (.iconst 0, 1) := by decide +kernel
theorem dX7_growthSize_17 : decode cX7_growthSize 17 = .ok (.ireturn, 1) := by decide +kernel
theorem dX7_growthAt_0 : decode cX7_growthAt 0 = .ok (.aload_n 0, 1) := by decide +kernel
theorem dX7_growthAt_1 : decode cX7_growthAt 1 = .ok (.iload_n 1, 1) := by decide +kernel
theorem dX7_growthAt_2 : decode cX7_growthAt 2 = .ok (.iload_n 2, 1) := by decide +kernel
theorem dX7_growthAt_3 : decode cX7_growthAt 3 = .ok (.invokevirtual 227, 3) := by decide +kernel
theorem dX7_growthAt_6 : decode cX7_growthAt 6 = .ok (.ifCond .eq 11, 3) := by decide +kernel
theorem dX7_growthAt_9 : decode cX7_growthAt 9 = .ok (.aload_n 0, 1) := by decide +kernel
theorem dX7_growthAt_10 : decode cX7_growthAt 10 = .ok (.iload_n 3, 1) := by decide +kernel
theorem dX7_growthAt_11 : decode cX7_growthAt 11 = .ok (.invokevirtual 221, 3) := by decide +kernel
theorem dX7_growthAt_14 : decode cX7_growthAt 14 = .ok (.goto 4, 3) := by decide +kernel
theorem dX7_growthAt_17 : decode cX7_growthAt 17 = .ok (.lconst 0, 1) := by decide +kernel
theorem dX7_growthAt_18 : decode cX7_growthAt 18 = .ok (.lreturn, 1) := by decide +kernel
theorem dX7_soundShare_0 : decode cX7_soundShare 0 = .ok (.iconst 0, 1) := by decide +kernel
theorem dX7_soundShare_1 : decode cX7_soundShare 1 = .ok (.istore_n 1, 1) := by decide +kernel
theorem dX7_soundShare_2 : decode cX7_soundShare 2 = .ok (.iconst 0, 1) := by decide +kernel
theorem dX7_soundShare_3 : decode cX7_soundShare 3 = .ok (.istore_n 2, 1) := by decide +kernel
theorem dX7_soundShare_4 : decode cX7_soundShare 4 = .ok (.iload_n 2, 1) := by decide +kernel
theorem dX7_soundShare_5 : decode cX7_soundShare 5 = .ok (.aload_n 0, 1) := by decide +kernel
theorem dX7_soundShare_6 : decode cX7_soundShare 6 = .ok (.getfield 71, 3) := by decide +kernel
theorem dX7_soundShare_9 : decode cX7_soundShare 9 = .ok (.if_icmp .ge 29, 3) := by decide +kernel
theorem dX7_soundShare_12 : decode cX7_soundShare 12 = .ok (.iload_n 1, 1) := by decide +kernel
theorem dX7_soundShare_13 : decode cX7_soundShare 13 = .ok (.aload_n 0, 1) := by decide +kernel
theorem dX7_soundShare_14 : decode cX7_soundShare 14 = .ok (.iload_n 2, 1) := by decide +kernel
theorem dX7_soundShare_15 : decode cX7_soundShare 15 = .ok (.aload_n 0, 1) := by decide +kernel
theorem dX7_soundShare_16 : decode cX7_soundShare 16 = .ok (.getfield 82, 3) := by decide +kernel
theorem dX7_soundShare_19 : decode cX7_soundShare 19 = .ok (.invokevirtual 149, 3) := by decide +kernel
theorem dX7_soundShare_22 : decode cX7_soundShare 22 = .ok (.ifCond .eq 7, 3) := by decide +kernel
theorem dX7_soundShare_25 : decode cX7_soundShare 25 = .ok (.iconst 1, 1) := by decide +kernel
theorem dX7_soundShare_26 : decode cX7_soundShare 26 = .ok (.goto 4, 3) := by decide +kernel
theorem dX7_soundShare_29 : decode cX7_soundShare 29 = .ok (.iconst 0, 1) := by decide +kernel
theorem dX7_soundShare_30 : decode cX7_soundShare 30 = .ok (.iadd, 1) := by decide +kernel
theorem dX7_soundShare_31 : decode cX7_soundShare 31 = .ok (.istore_n 1, 1) := by decide +kernel
theorem dX7_soundShare_32 : decode cX7_soundShare 32 = .ok (.iinc 2 1, 3) := by decide +kernel
theorem dX7_soundShare_35 : decode cX7_soundShare 35 = .ok (.goto (-31), 3) := by decide +kernel
theorem dX7_soundShare_38 : decode cX7_soundShare 38 = .ok (.aload_n 0, 1) := by decide +kernel
theorem dX7_soundShare_39 : decode cX7_soundShare 39 = .ok (.aload_n 0, 1) := by decide +kernel
theorem dX7_soundShare_40 : decode cX7_soundShare 40 = .ok (.getfield 71, 3) := by decide +kernel
theorem dX7_soundShare_43 : decode cX7_soundShare 43 = .ok (.ifCond .ne 7, 3) := by decide +kernel
theorem dX7_soundShare_46 : decode cX7_soundShare 46 = .ok (.iconst 1, 1) := by decide +kernel
theorem dX7_soundShare_47 : decode cX7_soundShare 47 = .ok (.goto 4, 3) := by decide +kernel
theorem dX7_soundShare_50 : decode cX7_soundShare 50 = .ok (.iconst 0, 1) := by decide +kernel
theorem dX7_soundShare_51 : decode cX7_soundShare 51 = .ok (.iconst 1, 1) := by decide +kernel
theorem dX7_soundShare_52 : decode cX7_soundShare 52 = .ok (.invokevirtual 78, 3) := by decide +kernel
theorem dX7_soundShare_55 : decode cX7_soundShare 55 = .ok (.ifCond .eq 7, 3) := by decide +kernel
theorem dX7_soundShare_58 : decode cX7_soundShare 58 = .ok (.fconst 0, 1) := by decide +kernel
theorem dX7_soundShare_59 : decode cX7_soundShare 59 = .ok (.goto 11, 3) := by decide +kernel
theorem dX7_soundShare_62 : decode cX7_soundShare 62 = .ok (.iload_n 1, 1) := by decide +kernel
theorem dX7_soundShare_63 : decode cX7_soundShare 63 = .ok (.i2f, 1) := by decide +kernel
theorem dX7_soundShare_64 : decode cX7_soundShare 64 = .ok (.aload_n 0, 1) := by decide +kernel
theorem dX7_soundShare_65 : decode cX7_soundShare 65 = .ok (.getfield 71, 3) := by decide +kernel
theorem dX7_soundShare_68 : decode cX7_soundShare 68 = .ok (.i2f, 1) := by decide +kernel
theorem dX7_soundShare_69 : decode cX7_soundShare 69 = .ok (.fdiv, 1) := by decide +kernel
theorem dX7_soundShare_70 : decode cX7_soundShare 70 = .ok (.freturn, 1) := by decide +kernel
theorem dX7_meanChain_0 : decode cX7_meanChain 0 = .ok (.iconst 0, 1) := by decide +kernel
theorem dX7_meanChain_1 : decode cX7_meanChain 1 = .ok (.istore_n 1, 1) := by decide +kernel
theorem dX7_meanChain_2 : decode cX7_meanChain 2 = .ok (.iconst 0, 1) := by decide +kernel
theorem dX7_meanChain_3 : decode cX7_meanChain 3 = .ok (.istore_n 2, 1) := by decide +kernel
theorem dX7_meanChain_4 : decode cX7_meanChain 4 = .ok (.iconst 0, 1) := by decide +kernel
theorem dX7_meanChain_5 : decode cX7_meanChain 5 = .ok (.istore_n 3, 1) := by decide +kernel
theorem dX7_meanChain_6 : decode cX7_meanChain 6 = .ok (.iload_n 3, 1) := by decide +kernel
theorem dX7_meanChain_7 : decode cX7_meanChain 7 = .ok (.aload_n 0, 1) := by decide +kernel
theorem dX7_meanChain_8 : decode cX7_meanChain 8 = .ok (.getfield 71, 3) := by decide +kernel
theorem dX7_meanChain_11 : decode cX7_meanChain 11 = .ok (.if_icmp .ge 38, 3) := by decide +kernel
theorem dX7_meanChain_14 : decode cX7_meanChain 14 = .ok (.aload_n 0, 1) := by decide +kernel
theorem dX7_meanChain_15 : decode cX7_meanChain 15 = .ok (.iload_n 3, 1) := by decide +kernel
theorem dX7_meanChain_16 : decode cX7_meanChain 16 = .ok (.aload_n 0, 1) := by decide +kernel
theorem dX7_meanChain_17 : decode cX7_meanChain 17 = .ok (.getfield 82, 3) := by decide +kernel
theorem dX7_meanChain_20 : decode cX7_meanChain 20 = .ok (.invokevirtual 152, 3) := by decide +kernel
theorem dX7_meanChain_23 : decode cX7_meanChain 23 = .ok (.istore 4, 2) := by decide +kernel
theorem dX7_meanChain_25 : decode cX7_meanChain 25 = .ok (.iload_n 1, 1) := by decide +kernel
theorem dX7_meanChain_26 : decode cX7_meanChain 26 = .ok (.iload 4, 2) := by decide +kernel
theorem dX7_meanChain_28 : decode cX7_meanChain 28 = .ok (.iadd, 1) := by decide +kernel
theorem dX7_meanChain_29 : decode cX7_meanChain 29 = .ok (.istore_n 1, 1) := by decide +kernel
theorem dX7_meanChain_30 : decode cX7_meanChain 30 = .ok (.iload_n 2, 1) := by decide +kernel
theorem dX7_meanChain_31 : decode cX7_meanChain 31 = .ok (.iload 4, 2) := by decide +kernel
theorem dX7_meanChain_33 : decode cX7_meanChain 33 = .ok (.ifCond .le 7, 3) := by decide +kernel
theorem dX7_meanChain_36 : decode cX7_meanChain 36 = .ok (.iconst 1, 1) := by decide +kernel
theorem dX7_meanChain_37 : decode cX7_meanChain 37 = .ok (.goto 4, 3) := by decide +kernel
theorem dX7_meanChain_40 : decode cX7_meanChain 40 = .ok (.iconst 0, 1) := by decide +kernel
theorem dX7_meanChain_41 : decode cX7_meanChain 41 = .ok (.iadd, 1) := by decide +kernel
theorem dX7_meanChain_42 : decode cX7_meanChain 42 = .ok (.istore_n 2, 1) := by decide +kernel
theorem dX7_meanChain_43 : decode cX7_meanChain 43 = .ok (.iinc 3 1, 3) := by decide +kernel
theorem dX7_meanChain_46 : decode cX7_meanChain 46 = .ok (.goto (-40), 3) := by decide +kernel
theorem dX7_meanChain_49 : decode cX7_meanChain 49 = .ok (.aload_n 0, 1) := by decide +kernel
theorem dX7_meanChain_50 : decode cX7_meanChain 50 = .ok (.iload_n 2, 1) := by decide +kernel
theorem dX7_meanChain_51 : decode cX7_meanChain 51 = .ok (.ifCond .ne 7, 3) := by decide +kernel
theorem dX7_meanChain_54 : decode cX7_meanChain 54 = .ok (.iconst 1, 1) := by decide +kernel
theorem dX7_meanChain_55 : decode cX7_meanChain 55 = .ok (.goto 4, 3) := by decide +kernel
theorem dX7_meanChain_58 : decode cX7_meanChain 58 = .ok (.iconst 0, 1) := by decide +kernel
theorem dX7_meanChain_59 : decode cX7_meanChain 59 = .ok (.iconst 1, 1) := by decide +kernel
theorem dX7_meanChain_60 : decode cX7_meanChain 60 = .ok (.invokevirtual 78, 3) := by decide +kernel
theorem dX7_meanChain_63 : decode cX7_meanChain 63 = .ok (.ifCond .eq 7, 3) := by decide +kernel
theorem dX7_meanChain_66 : decode cX7_meanChain 66 = .ok (.dconst 0, 1) := by decide +kernel
theorem dX7_meanChain_67 : decode cX7_meanChain 67 = .ok (.goto 8, 3) := by decide +kernel
theorem dX7_meanChain_70 : decode cX7_meanChain 70 = .ok (.iload_n 1, 1) := by decide +kernel
theorem dX7_meanChain_71 : decode cX7_meanChain 71 = .ok (.i2d, 1) := by decide +kernel
theorem dX7_meanChain_72 : decode cX7_meanChain 72 = .ok (.iload_n 2, 1) := by decide +kernel
theorem dX7_meanChain_73 : decode cX7_meanChain 73 = .ok (.i2d, 1) := by decide +kernel
theorem dX7_meanChain_74 : decode cX7_meanChain 74 = .ok (.ddiv, 1) := by decide +kernel
theorem dX7_meanChain_75 : decode cX7_meanChain 75 = .ok (.dreturn, 1) := by decide +kernel
theorem dJx00060_init_a7421_0 : decode cJx00060_init_a7421 0 = .ok (.aload_n 0, 1) := by decide +kernel
theorem dJx00060_init_a7421_1 : decode cJx00060_init_a7421 1 = .ok (.aload_n 1, 1) := by decide +kernel
theorem dJx00060_init_a7421_2 : decode cJx00060_init_a7421 2 = .ok (.invokespecial 7, 3) := by decide +kernel
theorem dJx00060_init_a7421_5 : decode cJx00060_init_a7421 5 = .ok (.return_, 1) := by decide +kernel
