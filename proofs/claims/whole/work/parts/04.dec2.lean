theorem dX6_find_38 : decode cX6_find 38 = .ok (.athrow, 1) := by decide +kernel
theorem dX6_find_39 : decode cX6_find 39 = .ok (.aload_n 2, 1) := by decide +kernel
theorem dX6_find_40 : decode cX6_find 40 = .ok (.areturn, 1) := by decide +kernel
theorem dX6_requireCandidate_0 : decode cX6_requireCandidate 0 = .ok (.aload_n 1, 1) := by decide +kernel
theorem dX6_requireCandidate_1 : decode cX6_requireCandidate 1 = .ok (.iload_n 2, 1) := by decide +kernel
theorem dX6_requireCandidate_2 : decode cX6_requireCandidate 2 = .ok (.invokevirtual 281, 3) := by decide +kernel
theorem dX6_requireCandidate_5 : decode cX6_requireCandidate 5 = .ok (.astore_n 3, 1) := by decide +kernel
theorem dX6_requireCandidate_6 : decode cX6_requireCandidate 6 = .ok (.aload_n 3, 1) := by decide +kernel
theorem dX6_requireCandidate_7 : decode cX6_requireCandidate 7 = .ok (.ifnonnull 14, 3) := by decide +kernel
theorem dX6_requireCandidate_10 : decode cX6_requireCandidate 10 = .ok (.new 193, 3) := by decide +kernel
theorem dX6_requireCandidate_13 : decode cX6_requireCandidate 13 = .ok (.dup, 1) := by decide +kernel
theorem dX6_requireCandidate_14 : decode cX6_requireCandidate 14 = .ok (.ldc_w 284, 3) := by decide +kernel
theorem dX6_requireCandidate_17 : decode cX6_requireCandidate 17 = .ok (.invokespecial 197, 3) := by decide +kernel
theorem dX6_requireCandidate_20 : decode cX6_requireCandidate 20 = .ok (.athrow, 1) := by decide +kernel
theorem dX6_requireCandidate_21 : decode cX6_requireCandidate 21 = .ok (.aload_n 3, 1) := by decide +kernel
theorem dX6_requireCandidate_22 : decode cX6_requireCandidate 22 = .ok (.areturn, 1) := by decide +kernel
theorem dX6_requireReached_0 : decode cX6_requireReached 0 = .ok (.aload_n 0, 1) := by decide +kernel
theorem dX6_requireReached_1 : decode cX6_requireReached 1 = .ok (.getfield 32, 3) := by decide +kernel
theorem dX6_requireReached_4 : decode cX6_requireReached 4 = .ok (.invokevirtual 286, 3) := by decide +kernel
theorem dX6_requireReached_7 : decode cX6_requireReached 7 = .ok (.astore_n 1, 1) := by decide +kernel
theorem dX6_requireReached_8 : decode cX6_requireReached 8 = .ok (.aload_n 1, 1) := by decide +kernel
theorem dX6_requireReached_9 : decode cX6_requireReached 9 = .ok (.ifnonnull 14, 3) := by decide +kernel
theorem dX6_requireReached_12 : decode cX6_requireReached 12 = .ok (.new 85, 3) := by decide +kernel
theorem dX6_requireReached_15 : decode cX6_requireReached 15 = .ok (.dup, 1) := by decide +kernel
theorem dX6_requireReached_16 : decode cX6_requireReached 16 = .ok (.ldc_w 289, 3) := by decide +kernel
theorem dX6_requireReached_19 : decode cX6_requireReached 19 = .ok (.invokespecial 89, 3) := by decide +kernel
theorem dX6_requireReached_22 : decode cX6_requireReached 22 = .ok (.athrow, 1) := by decide +kernel
theorem dX6_requireReached_23 : decode cX6_requireReached 23 = .ok (.aload_n 1, 1) := by decide +kernel
theorem dX6_requireReached_24 : decode cX6_requireReached 24 = .ok (.areturn, 1) := by decide +kernel
theorem dX6_requireName_0 : decode cX6_requireName 0 = .ok (.iload_n 0, 1) := by decide +kernel
theorem dX6_requireName_1 : decode cX6_requireName 1 = .ok (.invokestatic 291, 3) := by decide +kernel
theorem dX6_requireName_4 : decode cX6_requireName 4 = .ok (.ifCond .ne 14, 3) := by decide +kernel
theorem dX6_requireName_7 : decode cX6_requireName 7 = .ok (.new 294, 3) := by decide +kernel
theorem dX6_requireName_10 : decode cX6_requireName 10 = .ok (.dup, 1) := by decide +kernel
theorem dX6_requireName_11 : decode cX6_requireName 11 = .ok (.ldc_w 296, 3) := by decide +kernel
theorem dX6_requireName_14 : decode cX6_requireName 14 = .ok (.invokespecial 298, 3) := by decide +kernel
theorem dX6_requireName_17 : decode cX6_requireName 17 = .ok (.athrow, 1) := by decide +kernel
theorem dX6_requireName_18 : decode cX6_requireName 18 = .ok (.return_, 1) := by decide +kernel
theorem dX6_requireNameOrNone_0 : decode cX6_requireNameOrNone 0 = .ok (.iload_n 0, 1) := by decide +kernel
theorem dX6_requireNameOrNone_1 : decode cX6_requireNameOrNone 1 = .ok (.ifCond .eq 7, 3) := by decide +kernel
theorem dX6_requireNameOrNone_4 : decode cX6_requireNameOrNone 4 = .ok (.iload_n 0, 1) := by decide +kernel
theorem dX6_requireNameOrNone_5 : decode cX6_requireNameOrNone 5 = .ok (.invokestatic 52, 3) := by decide +kernel
theorem dX6_requireNameOrNone_8 : decode cX6_requireNameOrNone 8 = .ok (.return_, 1) := by decide +kernel
theorem dX6_requireDays_0 : decode cX6_requireDays 0 = .ok (.iload_n 0, 1) := by decide +kernel
theorem dX6_requireDays_1 : decode cX6_requireDays 1 = .ok (.iconst 1, 1) := by decide +kernel
theorem dX6_requireDays_2 : decode cX6_requireDays 2 = .ok (.if_icmp .lt 10, 3) := by decide +kernel
theorem dX6_requireDays_5 : decode cX6_requireDays 5 = .ok (.iload_n 0, 1) := by decide +kernel
theorem dX6_requireDays_6 : decode cX6_requireDays 6 = .ok (.sipush 999, 3) := by decide +kernel
theorem dX6_requireDays_9 : decode cX6_requireDays 9 = .ok (.if_icmp .le 14, 3) := by decide +kernel
theorem dX6_requireDays_12 : decode cX6_requireDays 12 = .ok (.new 294, 3) := by decide +kernel
theorem dX6_requireDays_15 : decode cX6_requireDays 15 = .ok (.dup, 1) := by decide +kernel
theorem dX6_requireDays_16 : decode cX6_requireDays 16 = .ok (.ldc_w 299, 3) := by decide +kernel
theorem dX6_requireDays_19 : decode cX6_requireDays 19 = .ok (.invokespecial 298, 3) := by decide +kernel
theorem dX6_requireDays_22 : decode cX6_requireDays 22 = .ok (.athrow, 1) := by decide +kernel
theorem dX6_requireDays_23 : decode cX6_requireDays 23 = .ok (.return_, 1) := by decide +kernel
theorem dX6_requireLength_0 : decode cX6_requireLength 0 = .ok (.iload_n 0, 1) := by decide +kernel
theorem dX6_requireLength_1 : decode cX6_requireLength 1 = .ok (.ifCond .lt 8, 3) := by decide +kernel
theorem dX6_requireLength_4 : decode cX6_requireLength 4 = .ok (.iload_n 0, 1) := by decide +kernel
theorem dX6_requireLength_5 : decode cX6_requireLength 5 = .ok (.iconst 5, 1) := by decide +kernel
theorem dX6_requireLength_6 : decode cX6_requireLength 6 = .ok (.if_icmp .le 14, 3) := by decide +kernel
theorem dX6_requireLength_9 : decode cX6_requireLength 9 = .ok (.new 294, 3) := by decide +kernel
theorem dX6_requireLength_12 : decode cX6_requireLength 12 = .ok (.dup, 1) := by decide +kernel
theorem dX6_requireLength_13 : decode cX6_requireLength 13 = .ok (.ldc_w 301, 3) := by decide +kernel
theorem dX6_requireLength_16 : decode cX6_requireLength 16 = .ok (.invokespecial 298, 3) := by decide +kernel
theorem dX6_requireLength_19 : decode cX6_requireLength 19 = .ok (.athrow, 1) := by decide +kernel
theorem dX6_requireLength_20 : decode cX6_requireLength 20 = .ok (.return_, 1) := by decide +kernel
theorem dX6_requireDay_0 : decode cX6_requireDay 0 = .ok (.iload_n 0, 1) := by decide +kernel
theorem dX6_requireDay_1 : decode cX6_requireDay 1 = .ok (.ifCond .ge 14, 3) := by decide +kernel
theorem dX6_requireDay_4 : decode cX6_requireDay 4 = .ok (.new 294, 3) := by decide +kernel
theorem dX6_requireDay_7 : decode cX6_requireDay 7 = .ok (.dup, 1) := by decide +kernel
theorem dX6_requireDay_8 : decode cX6_requireDay 8 = .ok (.ldc_w 303, 3) := by decide +kernel
theorem dX6_requireDay_11 : decode cX6_requireDay 11 = .ok (.invokespecial 298, 3) := by decide +kernel
theorem dX6_requireDay_14 : decode cX6_requireDay 14 = .ok (.athrow, 1) := by decide +kernel
theorem dX6_requireDay_15 : decode cX6_requireDay 15 = .ok (.return_, 1) := by decide +kernel
theorem dX6_requireAuthority_0 : decode cX6_requireAuthority 0 = .ok (.aload_n 0, 1) := by decide +kernel
theorem dX6_requireAuthority_1 : decode cX6_requireAuthority 1 = .ok (.invokevirtual 159, 3) := by decide +kernel
theorem dX6_requireAuthority_4 : decode cX6_requireAuthority 4 = .ok (.ifCond .ne 14, 3) := by decide +kernel
theorem dX6_requireAuthority_7 : decode cX6_requireAuthority 7 = .ok (.new 85, 3) := by decide +kernel
theorem dX6_requireAuthority_10 : decode cX6_requireAuthority 10 = .ok (.dup, 1) := by decide +kernel
theorem dX6_requireAuthority_11 : decode cX6_requireAuthority 11 = .ok (.ldc_w 305, 3) := by decide +kernel
theorem dX6_requireAuthority_14 : decode cX6_requireAuthority 14 = .ok (.invokespecial 89, 3) := by decide +kernel
theorem dX6_requireAuthority_17 : decode cX6_requireAuthority 17 = .ok (.athrow, 1) := by decide +kernel
theorem dX6_requireAuthority_18 : decode cX6_requireAuthority 18 = .ok (.return_, 1) := by decide +kernel
theorem dX6_requireRoom_0 : decode cX6_requireRoom 0 = .ok (.aload_n 0, 1) := by decide +kernel
theorem dX6_requireRoom_1 : decode cX6_requireRoom 1 = .ok (.getfield 42, 3) := by decide +kernel
theorem dX6_requireRoom_4 : decode cX6_requireRoom 4 = .ok (.bipush 40, 2) := by decide +kernel
theorem dX6_requireRoom_6 : decode cX6_requireRoom 6 = .ok (.if_icmp .lt 14, 3) := by decide +kernel
theorem dX6_requireRoom_9 : decode cX6_requireRoom 9 = .ok (.new 85, 3) := by decide +kernel
theorem dX6_requireRoom_12 : decode cX6_requireRoom 12 = .ok (.dup, 1) := by decide +kernel
theorem dX6_requireRoom_13 : decode cX6_requireRoom 13 = .ok (.ldc_w 307, 3) := by decide +kernel
theorem dX6_requireRoom_16 : decode cX6_requireRoom 16 = .ok (.invokespecial 89, 3) := by decide +kernel
theorem dX6_requireRoom_19 : decode cX6_requireRoom 19 = .ok (.athrow, 1) := by decide +kernel
theorem dX6_requireRoom_20 : decode cX6_requireRoom 20 = .ok (.return_, 1) := by decide +kernel
theorem dX6_requireSize_0 : decode cX6_requireSize 0 = .ok (.iload_n 1, 1) := by decide +kernel
theorem dX6_requireSize_1 : decode cX6_requireSize 1 = .ok (.iconst 1, 1) := by decide +kernel
theorem dX6_requireSize_2 : decode cX6_requireSize 2 = .ok (.if_icmp .lt 14, 3) := by decide +kernel
theorem dX6_requireSize_5 : decode cX6_requireSize 5 = .ok (.iload_n 1, 1) := by decide +kernel
theorem dX6_requireSize_6 : decode cX6_requireSize 6 = .ok (.aload_n 0, 1) := by decide +kernel
theorem dX6_requireSize_7 : decode cX6_requireSize 7 = .ok (.getfield 25, 3) := by decide +kernel
theorem dX6_requireSize_10 : decode cX6_requireSize 10 = .ok (.getfield 309, 3) := by decide +kernel
theorem dX6_requireSize_13 : decode cX6_requireSize 13 = .ok (.if_icmp .le 14, 3) := by decide +kernel
theorem dX6_requireSize_16 : decode cX6_requireSize 16 = .ok (.new 294, 3) := by decide +kernel
theorem dX6_requireSize_19 : decode cX6_requireSize 19 = .ok (.dup, 1) := by decide +kernel
theorem dX6_requireSize_20 : decode cX6_requireSize 20 = .ok (.ldc_w 310, 3) := by decide +kernel
theorem dX6_requireSize_23 : decode cX6_requireSize 23 = .ok (.invokespecial 298, 3) := by decide +kernel
theorem dX6_requireSize_26 : decode cX6_requireSize 26 = .ok (.athrow, 1) := by decide +kernel
theorem dX6_requireSize_27 : decode cX6_requireSize 27 = .ok (.return_, 1) := by decide +kernel
theorem dX6_isName_0 : decode cX6_isName 0 = .ok (.iload_n 0, 1) := by decide +kernel
theorem dX6_isName_1 : decode cX6_isName 1 = .ok (.iconst 1, 1) := by decide +kernel
theorem dX6_isName_2 : decode cX6_isName 2 = .ok (.if_icmp .lt 10, 3) := by decide +kernel
theorem dX6_isName_5 : decode cX6_isName 5 = .ok (.iload_n 0, 1) := by decide +kernel
theorem dX6_isName_6 : decode cX6_isName 6 = .ok (.sipush 9999, 3) := by decide +kernel
theorem dX6_isName_9 : decode cX6_isName 9 = .ok (.if_icmp .le 5, 3) := by decide +kernel
theorem dX6_isName_12 : decode cX6_isName 12 = .ok (.iconst 0, 1) := by decide +kernel
theorem dX6_isName_13 : decode cX6_isName 13 = .ok (.ireturn, 1) := by decide +kernel
theorem dX6_isName_14 : decode cX6_isName 14 = .ok (.iload_n 0, 1) := by decide +kernel
theorem dX6_isName_15 : decode cX6_isName 15 = .ok (.istore_n 1, 1) := by decide +kernel
theorem dX6_isName_16 : decode cX6_isName 16 = .ok (.iload_n 1, 1) := by decide +kernel
theorem dX6_isName_17 : decode cX6_isName 17 = .ok (.ifCond .le 20, 3) := by decide +kernel
theorem dX6_isName_20 : decode cX6_isName 20 = .ok (.iload_n 1, 1) := by decide +kernel
theorem dX6_isName_21 : decode cX6_isName 21 = .ok (.bipush 10, 2) := by decide +kernel
theorem dX6_isName_23 : decode cX6_isName 23 = .ok (.irem, 1) := by decide +kernel
theorem dX6_isName_24 : decode cX6_isName 24 = .ok (.ifCond .ne 5, 3) := by decide +kernel
theorem dX6_isName_27 : decode cX6_isName 27 = .ok (.iconst 0, 1) := by decide +kernel
theorem dX6_isName_28 : decode cX6_isName 28 = .ok (.ireturn, 1) := by decide +kernel
theorem dX6_isName_29 : decode cX6_isName 29 = .ok (.iload_n 1, 1) := by decide +kernel
theorem dX6_isName_30 : decode cX6_isName 30 = .ok (.bipush 10, 2) := by decide +kernel
theorem dX6_isName_32 : decode cX6_isName 32 = .ok (.idiv, 1) := by decide +kernel
theorem dX6_isName_33 : decode cX6_isName 33 = .ok (.istore_n 1, 1) := by decide +kernel
theorem dX6_isName_34 : decode cX6_isName 34 = .ok (.goto (-18), 3) := by decide +kernel
theorem dX6_isName_37 : decode cX6_isName 37 = .ok (.iconst 1, 1) := by decide +kernel
theorem dX6_isName_38 : decode cX6_isName 38 = .ok (.ireturn, 1) := by decide +kernel
theorem dX6_beginsWith_0 : decode cX6_beginsWith 0 = .ok (.iload_n 0, 1) := by decide +kernel
theorem dX6_beginsWith_1 : decode cX6_beginsWith 1 = .ok (.istore_n 2, 1) := by decide +kernel
theorem dX6_beginsWith_2 : decode cX6_beginsWith 2 = .ok (.iconst 0, 1) := by decide +kernel
theorem dX6_beginsWith_3 : decode cX6_beginsWith 3 = .ok (.istore_n 3, 1) := by decide +kernel
theorem dX6_beginsWith_4 : decode cX6_beginsWith 4 = .ok (.iload_n 3, 1) := by decide +kernel
theorem dX6_beginsWith_5 : decode cX6_beginsWith 5 = .ok (.iconst 4, 1) := by decide +kernel
theorem dX6_beginsWith_6 : decode cX6_beginsWith 6 = .ok (.if_icmp .ge 19, 3) := by decide +kernel
theorem dX6_beginsWith_9 : decode cX6_beginsWith 9 = .ok (.iload_n 2, 1) := by decide +kernel
theorem dX6_beginsWith_10 : decode cX6_beginsWith 10 = .ok (.iload_n 1, 1) := by decide +kernel
theorem dX6_beginsWith_11 : decode cX6_beginsWith 11 = .ok (.if_icmp .le 14, 3) := by decide +kernel
theorem dX6_beginsWith_14 : decode cX6_beginsWith 14 = .ok (.iload_n 2, 1) := by decide +kernel
theorem dX6_beginsWith_15 : decode cX6_beginsWith 15 = .ok (.bipush 10, 2) := by decide +kernel
theorem dX6_beginsWith_17 : decode cX6_beginsWith 17 = .ok (.idiv, 1) := by decide +kernel
theorem dX6_beginsWith_18 : decode cX6_beginsWith 18 = .ok (.istore_n 2, 1) := by decide +kernel
theorem dX6_beginsWith_19 : decode cX6_beginsWith 19 = .ok (.iinc 3 1, 3) := by decide +kernel
theorem dX6_beginsWith_22 : decode cX6_beginsWith 22 = .ok (.goto (-18), 3) := by decide +kernel
theorem dX6_beginsWith_25 : decode cX6_beginsWith 25 = .ok (.iload_n 2, 1) := by decide +kernel
theorem dX6_beginsWith_26 : decode cX6_beginsWith 26 = .ok (.iload_n 1, 1) := by decide +kernel
theorem dX6_beginsWith_27 : decode cX6_beginsWith 27 = .ok (.if_icmp .ne 7, 3) := by decide +kernel
theorem dX6_beginsWith_30 : decode cX6_beginsWith 30 = .ok (.iconst 1, 1) := by decide +kernel
theorem dX6_beginsWith_31 : decode cX6_beginsWith 31 = .ok (.goto 4, 3) := by decide +kernel
theorem dX6_beginsWith_34 : decode cX6_beginsWith 34 = .ok (.iconst 0, 1) := by decide +kernel
theorem dX6_beginsWith_35 : decode cX6_beginsWith 35 = .ok (.ireturn, 1) := by decide +kernel
theorem dX6_newHolder_0 : decode cX6_newHolder 0 = .ok (.aload_n 0, 1) := by decide +kernel
theorem dX6_newHolder_1 : decode cX6_newHolder 1 = .ok (.dup, 1) := by decide +kernel
theorem dX6_newHolder_2 : decode cX6_newHolder 2 = .ok (.getfield 46, 3) := by decide +kernel
theorem dX6_newHolder_5 : decode cX6_newHolder 5 = .ok (.iconst 1, 1) := by decide +kernel
theorem dX6_newHolder_6 : decode cX6_newHolder 6 = .ok (.iadd, 1) := by decide +kernel
theorem dX6_newHolder_7 : decode cX6_newHolder 7 = .ok (.putfield 46, 3) := by decide +kernel
theorem dX6_newHolder_10 : decode cX6_newHolder 10 = .ok (.new 93, 3) := by decide +kernel
theorem dX6_newHolder_13 : decode cX6_newHolder 13 = .ok (.dup, 1) := by decide +kernel
theorem dX6_newHolder_14 : decode cX6_newHolder 14 = .ok (.iload_n 1, 1) := by decide +kernel
theorem dX6_newHolder_15 : decode cX6_newHolder 15 = .ok (.aload_n 0, 1) := by decide +kernel
theorem dX6_newHolder_16 : decode cX6_newHolder 16 = .ok (.getfield 46, 3) := by decide +kernel
theorem dX6_newHolder_19 : decode cX6_newHolder 19 = .ok (.invokespecial 312, 3) := by decide +kernel
theorem dX6_newHolder_22 : decode cX6_newHolder 22 = .ok (.areturn, 1) := by decide +kernel
theorem dX6_enter_0 : decode cX6_enter 0 = .ok (.aload_n 0, 1) := by decide +kernel
theorem dX6_enter_1 : decode cX6_enter 1 = .ok (.getfield 42, 3) := by decide +kernel
theorem dX6_enter_4 : decode cX6_enter 4 = .ok (.istore 5, 2) := by decide +kernel
theorem dX6_enter_6 : decode cX6_enter 6 = .ok (.aload_n 0, 1) := by decide +kernel
theorem dX6_enter_7 : decode cX6_enter 7 = .ok (.getfield 49, 3) := by decide +kernel
theorem dX6_enter_10 : decode cX6_enter 10 = .ok (.iload_n 3, 1) := by decide +kernel
theorem dX6_enter_11 : decode cX6_enter 11 = .ok (.iadd, 1) := by decide +kernel
theorem dX6_enter_12 : decode cX6_enter 12 = .ok (.iconst 1, 1) := by decide +kernel
theorem dX6_enter_13 : decode cX6_enter 13 = .ok (.isub, 1) := by decide +kernel
theorem dX6_enter_14 : decode cX6_enter 14 = .ok (.istore 6, 2) := by decide +kernel
theorem dX6_enter_16 : decode cX6_enter 16 = .ok (.new 9, 3) := by decide +kernel
theorem dX6_enter_19 : decode cX6_enter 19 = .ok (.dup, 1) := by decide +kernel
theorem dX6_enter_20 : decode cX6_enter 20 = .ok (.iload 5, 2) := by decide +kernel
theorem dX6_enter_22 : decode cX6_enter 22 = .ok (.aload_n 1, 1) := by decide +kernel
theorem dX6_enter_23 : decode cX6_enter 23 = .ok (.aload_n 2, 1) := by decide +kernel
theorem dX6_enter_24 : decode cX6_enter 24 = .ok (.aload_n 0, 1) := by decide +kernel
theorem dX6_enter_25 : decode cX6_enter 25 = .ok (.getfield 49, 3) := by decide +kernel
theorem dX6_enter_28 : decode cX6_enter 28 = .ok (.iload 6, 2) := by decide +kernel
theorem dX6_enter_30 : decode cX6_enter 30 = .ok (.iload 4, 2) := by decide +kernel
theorem dX6_enter_32 : decode cX6_enter 32 = .ok (.invokespecial 315, 3) := by decide +kernel
theorem dX6_enter_35 : decode cX6_enter 35 = .ok (.astore 7, 2) := by decide +kernel
theorem dX6_enter_37 : decode cX6_enter 37 = .ok (.iload 5, 2) := by decide +kernel
theorem dX6_enter_39 : decode cX6_enter 39 = .ok (.ifCond .lt 47, 3) := by decide +kernel
theorem dX6_enter_42 : decode cX6_enter 42 = .ok (.iload 5, 2) := by decide +kernel
theorem dX6_enter_44 : decode cX6_enter 44 = .ok (.aload_n 0, 1) := by decide +kernel
theorem dX6_enter_45 : decode cX6_enter 45 = .ok (.getfield 11, 3) := by decide +kernel
theorem dX6_enter_48 : decode cX6_enter 48 = .ok (.arraylength, 1) := by decide +kernel
theorem dX6_enter_49 : decode cX6_enter 49 = .ok (.if_icmp .ge 37, 3) := by decide +kernel
theorem dX6_enter_52 : decode cX6_enter 52 = .ok (.aload_n 0, 1) := by decide +kernel
theorem dX6_enter_53 : decode cX6_enter 53 = .ok (.getfield 11, 3) := by decide +kernel
theorem dX6_enter_56 : decode cX6_enter 56 = .ok (.iload 5, 2) := by decide +kernel
theorem dX6_enter_58 : decode cX6_enter 58 = .ok (.aload 7, 2) := by decide +kernel
theorem dX6_enter_60 : decode cX6_enter 60 = .ok (.aastore, 1) := by decide +kernel
theorem dX6_enter_61 : decode cX6_enter 61 = .ok (.aload_n 0, 1) := by decide +kernel
theorem dX6_enter_62 : decode cX6_enter 62 = .ok (.dup, 1) := by decide +kernel
theorem dX6_enter_63 : decode cX6_enter 63 = .ok (.getfield 42, 3) := by decide +kernel
theorem dX6_enter_66 : decode cX6_enter 66 = .ok (.iconst 1, 1) := by decide +kernel
theorem dX6_enter_67 : decode cX6_enter 67 = .ok (.iadd, 1) := by decide +kernel
theorem dX6_enter_68 : decode cX6_enter 68 = .ok (.putfield 42, 3) := by decide +kernel
theorem dX6_enter_71 : decode cX6_enter 71 = .ok (.aload_n 1, 1) := by decide +kernel
theorem dX6_enter_72 : decode cX6_enter 72 = .ok (.aload 7, 2) := by decide +kernel
theorem dX6_enter_74 : decode cX6_enter 74 = .ok (.invokevirtual 318, 3) := by decide +kernel
theorem dX6_enter_77 : decode cX6_enter 77 = .ok (.aload_n 0, 1) := by decide +kernel
theorem dX6_enter_78 : decode cX6_enter 78 = .ok (.getfield 25, 3) := by decide +kernel
theorem dX6_enter_81 : decode cX6_enter 81 = .ok (.aload 7, 2) := by decide +kernel
theorem dX6_enter_83 : decode cX6_enter 83 = .ok (.invokevirtual 321, 3) := by decide +kernel
theorem dX6_enter_86 : decode cX6_enter 86 = .ok (.iload 5, 2) := by decide +kernel
theorem dX6_enter_88 : decode cX6_enter 88 = .ok (.ireturn, 1) := by decide +kernel
theorem dX6_hasIssued_0 : decode cX6_hasIssued 0 = .ok (.aload_n 0, 1) := by decide +kernel
theorem dX6_hasIssued_1 : decode cX6_hasIssued 1 = .ok (.getfield 11, 3) := by decide +kernel
theorem dX6_hasIssued_4 : decode cX6_hasIssued 4 = .ok (.astore_n 2, 1) := by decide +kernel
theorem dX6_hasIssued_5 : decode cX6_hasIssued 5 = .ok (.aload_n 2, 1) := by decide +kernel
theorem dX6_hasIssued_6 : decode cX6_hasIssued 6 = .ok (.arraylength, 1) := by decide +kernel
theorem dX6_hasIssued_7 : decode cX6_hasIssued 7 = .ok (.istore_n 3, 1) := by decide +kernel
theorem dX6_hasIssued_8 : decode cX6_hasIssued 8 = .ok (.iconst 0, 1) := by decide +kernel
theorem dX6_hasIssued_9 : decode cX6_hasIssued 9 = .ok (.istore 4, 2) := by decide +kernel
theorem dX6_hasIssued_11 : decode cX6_hasIssued 11 = .ok (.iload 4, 2) := by decide +kernel
theorem dX6_hasIssued_13 : decode cX6_hasIssued 13 = .ok (.iload_n 3, 1) := by decide +kernel
theorem dX6_hasIssued_14 : decode cX6_hasIssued 14 = .ok (.if_icmp .ge 39, 3) := by decide +kernel
theorem dX6_hasIssued_17 : decode cX6_hasIssued 17 = .ok (.aload_n 2, 1) := by decide +kernel
theorem dX6_hasIssued_18 : decode cX6_hasIssued 18 = .ok (.iload 4, 2) := by decide +kernel
theorem dX6_hasIssued_20 : decode cX6_hasIssued 20 = .ok (.aaload, 1) := by decide +kernel
theorem dX6_hasIssued_21 : decode cX6_hasIssued 21 = .ok (.astore 5, 2) := by decide +kernel
theorem dX6_hasIssued_23 : decode cX6_hasIssued 23 = .ok (.aload 5, 2) := by decide +kernel
theorem dX6_hasIssued_25 : decode cX6_hasIssued 25 = .ok (.ifnull 22, 3) := by decide +kernel
theorem dX6_hasIssued_28 : decode cX6_hasIssued 28 = .ok (.aload 5, 2) := by decide +kernel
theorem dX6_hasIssued_30 : decode cX6_hasIssued 30 = .ok (.getfield 135, 3) := by decide +kernel
theorem dX6_hasIssued_33 : decode cX6_hasIssued 33 = .ok (.aload_n 1, 1) := by decide +kernel
theorem dX6_hasIssued_34 : decode cX6_hasIssued 34 = .ok (.if_acmp .ne 13, 3) := by decide +kernel
theorem dX6_hasIssued_37 : decode cX6_hasIssued 37 = .ok (.aload 5, 2) := by decide +kernel
theorem dX6_hasIssued_39 : decode cX6_hasIssued 39 = .ok (.invokevirtual 115, 3) := by decide +kernel
theorem dX6_hasIssued_42 : decode cX6_hasIssued 42 = .ok (.ifCond .ne 5, 3) := by decide +kernel
theorem dX6_hasIssued_45 : decode cX6_hasIssued 45 = .ok (.iconst 1, 1) := by decide +kernel
theorem dX6_hasIssued_46 : decode cX6_hasIssued 46 = .ok (.ireturn, 1) := by decide +kernel
theorem dX6_hasIssued_47 : decode cX6_hasIssued 47 = .ok (.iinc 4 1, 3) := by decide +kernel
theorem dX6_hasIssued_50 : decode cX6_hasIssued 50 = .ok (.goto (-39), 3) := by decide +kernel
theorem dX6_hasIssued_53 : decode cX6_hasIssued 53 = .ok (.iconst 0, 1) := by decide +kernel
theorem dX6_hasIssued_54 : decode cX6_hasIssued 54 = .ok (.ireturn, 1) := by decide +kernel
theorem dX6_trustedRoots_0 : decode cX6_trustedRoots 0 = .ok (.iconst 0, 1) := by decide +kernel
theorem dX6_trustedRoots_1 : decode cX6_trustedRoots 1 = .ok (.istore_n 1, 1) := by decide +kernel
theorem dX6_trustedRoots_2 : decode cX6_trustedRoots 2 = .ok (.aload_n 0, 1) := by decide +kernel
theorem dX6_trustedRoots_3 : decode cX6_trustedRoots 3 = .ok (.getfield 11, 3) := by decide +kernel
theorem dX6_trustedRoots_6 : decode cX6_trustedRoots 6 = .ok (.astore_n 2, 1) := by decide +kernel
theorem dX6_trustedRoots_7 : decode cX6_trustedRoots 7 = .ok (.aload_n 2, 1) := by decide +kernel
theorem dX6_trustedRoots_8 : decode cX6_trustedRoots 8 = .ok (.arraylength, 1) := by decide +kernel
theorem dX6_trustedRoots_9 : decode cX6_trustedRoots 9 = .ok (.istore_n 3, 1) := by decide +kernel
theorem dX6_trustedRoots_10 : decode cX6_trustedRoots 10 = .ok (.iconst 0, 1) := by decide +kernel
theorem dX6_trustedRoots_11 : decode cX6_trustedRoots 11 = .ok (.istore 4, 2) := by decide +kernel
theorem dX6_trustedRoots_13 : decode cX6_trustedRoots 13 = .ok (.iload 4, 2) := by decide +kernel
theorem dX6_trustedRoots_15 : decode cX6_trustedRoots 15 = .ok (.iload_n 3, 1) := by decide +kernel
theorem dX6_trustedRoots_16 : decode cX6_trustedRoots 16 = .ok (.if_icmp .ge 31, 3) := by decide +kernel
theorem dX6_trustedRoots_19 : decode cX6_trustedRoots 19 = .ok (.aload_n 2, 1) := by decide +kernel
theorem dX6_trustedRoots_20 : decode cX6_trustedRoots 20 = .ok (.iload 4, 2) := by decide +kernel
theorem dX6_trustedRoots_22 : decode cX6_trustedRoots 22 = .ok (.aaload, 1) := by decide +kernel
theorem dX6_trustedRoots_23 : decode cX6_trustedRoots 23 = .ok (.astore 5, 2) := by decide +kernel
theorem dX6_trustedRoots_25 : decode cX6_trustedRoots 25 = .ok (.aload 5, 2) := by decide +kernel
theorem dX6_trustedRoots_27 : decode cX6_trustedRoots 27 = .ok (.ifnull 14, 3) := by decide +kernel
theorem dX6_trustedRoots_30 : decode cX6_trustedRoots 30 = .ok (.aload 5, 2) := by decide +kernel
theorem dX6_trustedRoots_32 : decode cX6_trustedRoots 32 = .ok (.getfield 120, 3) := by decide +kernel
theorem dX6_trustedRoots_35 : decode cX6_trustedRoots 35 = .ok (.ifCond .eq 6, 3) := by decide +kernel
theorem dX6_trustedRoots_38 : decode cX6_trustedRoots 38 = .ok (.iinc 1 1, 3) := by decide +kernel
theorem dX6_trustedRoots_41 : decode cX6_trustedRoots 41 = .ok (.iinc 4 1, 3) := by decide +kernel
theorem dX6_trustedRoots_44 : decode cX6_trustedRoots 44 = .ok (.goto (-31), 3) := by decide +kernel
theorem dX6_trustedRoots_47 : decode cX6_trustedRoots 47 = .ok (.iload_n 1, 1) := by decide +kernel
theorem dX6_trustedRoots_48 : decode cX6_trustedRoots 48 = .ok (.ireturn, 1) := by decide +kernel
theorem dX6_pendingOf_0 : decode cX6_pendingOf 0 = .ok (.iconst 0, 1) := by decide +kernel
theorem dX6_pendingOf_1 : decode cX6_pendingOf 1 = .ok (.istore_n 2, 1) := by decide +kernel
theorem dX6_pendingOf_2 : decode cX6_pendingOf 2 = .ok (.aload_n 0, 1) := by decide +kernel
theorem dX6_pendingOf_3 : decode cX6_pendingOf 3 = .ok (.getfield 11, 3) := by decide +kernel
theorem dX6_pendingOf_6 : decode cX6_pendingOf 6 = .ok (.astore_n 3, 1) := by decide +kernel
theorem dX6_pendingOf_7 : decode cX6_pendingOf 7 = .ok (.aload_n 3, 1) := by decide +kernel
theorem dX6_pendingOf_8 : decode cX6_pendingOf 8 = .ok (.arraylength, 1) := by decide +kernel
theorem dX6_pendingOf_9 : decode cX6_pendingOf 9 = .ok (.istore 4, 2) := by decide +kernel
theorem dX6_pendingOf_11 : decode cX6_pendingOf 11 = .ok (.iconst 0, 1) := by decide +kernel
theorem dX6_pendingOf_12 : decode cX6_pendingOf 12 = .ok (.istore 5, 2) := by decide +kernel
theorem dX6_pendingOf_14 : decode cX6_pendingOf 14 = .ok (.iload 5, 2) := by decide +kernel
theorem dX6_pendingOf_16 : decode cX6_pendingOf 16 = .ok (.iload 4, 2) := by decide +kernel
theorem dX6_pendingOf_18 : decode cX6_pendingOf 18 = .ok (.if_icmp .ge 49, 3) := by decide +kernel
theorem dX6_pendingOf_21 : decode cX6_pendingOf 21 = .ok (.aload_n 3, 1) := by decide +kernel
theorem dX6_pendingOf_22 : decode cX6_pendingOf 22 = .ok (.iload 5, 2) := by decide +kernel
theorem dX6_pendingOf_24 : decode cX6_pendingOf 24 = .ok (.aaload, 1) := by decide +kernel
theorem dX6_pendingOf_25 : decode cX6_pendingOf 25 = .ok (.astore 6, 2) := by decide +kernel
theorem dX6_pendingOf_27 : decode cX6_pendingOf 27 = .ok (.aload 6, 2) := by decide +kernel
theorem dX6_pendingOf_29 : decode cX6_pendingOf 29 = .ok (.ifnull 32, 3) := by decide +kernel
theorem dX6_pendingOf_32 : decode cX6_pendingOf 32 = .ok (.aload 6, 2) := by decide +kernel
theorem dX6_pendingOf_34 : decode cX6_pendingOf 34 = .ok (.getfield 135, 3) := by decide +kernel
theorem dX6_pendingOf_37 : decode cX6_pendingOf 37 = .ok (.aload_n 1, 1) := by decide +kernel
theorem dX6_pendingOf_38 : decode cX6_pendingOf 38 = .ok (.if_acmp .ne 23, 3) := by decide +kernel
theorem dX6_pendingOf_41 : decode cX6_pendingOf 41 = .ok (.aload 6, 2) := by decide +kernel
theorem dX6_pendingOf_43 : decode cX6_pendingOf 43 = .ok (.getfield 130, 3) := by decide +kernel
theorem dX6_pendingOf_46 : decode cX6_pendingOf 46 = .ok (.ifCond .eq 15, 3) := by decide +kernel
theorem dX6_pendingOf_49 : decode cX6_pendingOf 49 = .ok (.aload 6, 2) := by decide +kernel
theorem dX6_pendingOf_51 : decode cX6_pendingOf 51 = .ok (.getfield 271, 3) := by decide +kernel
theorem dX6_pendingOf_54 : decode cX6_pendingOf 54 = .ok (.iconst (-1), 1) := by decide +kernel
theorem dX6_pendingOf_55 : decode cX6_pendingOf 55 = .ok (.if_icmp .ne 6, 3) := by decide +kernel
theorem dX6_pendingOf_58 : decode cX6_pendingOf 58 = .ok (.iinc 2 1, 3) := by decide +kernel
theorem dX6_pendingOf_61 : decode cX6_pendingOf 61 = .ok (.iinc 5 1, 3) := by decide +kernel
theorem dX6_pendingOf_64 : decode cX6_pendingOf 64 = .ok (.goto (-50), 3) := by decide +kernel
theorem dX6_pendingOf_67 : decode cX6_pendingOf 67 = .ok (.iload_n 2, 1) := by decide +kernel
theorem dX6_pendingOf_68 : decode cX6_pendingOf 68 = .ok (.ireturn, 1) := by decide +kernel
theorem dX6_takeEffect_0 : decode cX6_takeEffect 0 = .ok (.lconst 0, 1) := by decide +kernel
theorem dX6_takeEffect_1 : decode cX6_takeEffect 1 = .ok (.lstore_n 2, 1) := by decide +kernel
theorem dX6_takeEffect_2 : decode cX6_takeEffect 2 = .ok (.aload_n 0, 1) := by decide +kernel
theorem dX6_takeEffect_3 : decode cX6_takeEffect 3 = .ok (.getfield 11, 3) := by decide +kernel
theorem dX6_takeEffect_6 : decode cX6_takeEffect 6 = .ok (.astore 4, 2) := by decide +kernel
theorem dX6_takeEffect_8 : decode cX6_takeEffect 8 = .ok (.aload 4, 2) := by decide +kernel
theorem dX6_takeEffect_10 : decode cX6_takeEffect 10 = .ok (.arraylength, 1) := by decide +kernel
theorem dX6_takeEffect_11 : decode cX6_takeEffect 11 = .ok (.istore 5, 2) := by decide +kernel
theorem dX6_takeEffect_13 : decode cX6_takeEffect 13 = .ok (.iconst 0, 1) := by decide +kernel
theorem dX6_takeEffect_14 : decode cX6_takeEffect 14 = .ok (.istore 6, 2) := by decide +kernel
theorem dX6_takeEffect_16 : decode cX6_takeEffect 16 = .ok (.iload 6, 2) := by decide +kernel
theorem dX6_takeEffect_18 : decode cX6_takeEffect 18 = .ok (.iload 5, 2) := by decide +kernel
theorem dX6_takeEffect_20 : decode cX6_takeEffect 20 = .ok (.if_icmp .ge 67, 3) := by decide +kernel
theorem dX6_takeEffect_23 : decode cX6_takeEffect 23 = .ok (.aload 4, 2) := by decide +kernel
theorem dX6_takeEffect_25 : decode cX6_takeEffect 25 = .ok (.iload 6, 2) := by decide +kernel
theorem dX6_takeEffect_27 : decode cX6_takeEffect 27 = .ok (.aaload, 1) := by decide +kernel
theorem dX6_takeEffect_28 : decode cX6_takeEffect 28 = .ok (.astore 7, 2) := by decide +kernel
theorem dX6_takeEffect_30 : decode cX6_takeEffect 30 = .ok (.aload 7, 2) := by decide +kernel
theorem dX6_takeEffect_32 : decode cX6_takeEffect 32 = .ok (.ifnull 49, 3) := by decide +kernel
theorem dX6_takeEffect_35 : decode cX6_takeEffect 35 = .ok (.aload 7, 2) := by decide +kernel
theorem dX6_takeEffect_37 : decode cX6_takeEffect 37 = .ok (.getfield 135, 3) := by decide +kernel
theorem dX6_takeEffect_40 : decode cX6_takeEffect 40 = .ok (.aload_n 1, 1) := by decide +kernel
theorem dX6_takeEffect_41 : decode cX6_takeEffect 41 = .ok (.if_acmp .ne 40, 3) := by decide +kernel
theorem dX6_takeEffect_44 : decode cX6_takeEffect 44 = .ok (.aload 7, 2) := by decide +kernel
theorem dX6_takeEffect_46 : decode cX6_takeEffect 46 = .ok (.getfield 130, 3) := by decide +kernel
theorem dX6_takeEffect_49 : decode cX6_takeEffect 49 = .ok (.ifCond .eq 32, 3) := by decide +kernel
theorem dX6_takeEffect_52 : decode cX6_takeEffect 52 = .ok (.lload_n 2, 1) := by decide +kernel
theorem dX6_takeEffect_53 : decode cX6_takeEffect 53 = .ok (.aload 7, 2) := by decide +kernel
theorem dX6_takeEffect_55 : decode cX6_takeEffect 55 = .ok (.getfield 173, 3) := by decide +kernel
theorem dX6_takeEffect_58 : decode cX6_takeEffect 58 = .ok (.invokestatic 324, 3) := by decide +kernel
theorem dX6_takeEffect_61 : decode cX6_takeEffect 61 = .ok (.lor, 1) := by decide +kernel
theorem dX6_takeEffect_62 : decode cX6_takeEffect 62 = .ok (.lstore_n 2, 1) := by decide +kernel
theorem dX6_takeEffect_63 : decode cX6_takeEffect 63 = .ok (.aload 7, 2) := by decide +kernel
theorem dX6_takeEffect_65 : decode cX6_takeEffect 65 = .ok (.getfield 271, 3) := by decide +kernel
theorem dX6_takeEffect_68 : decode cX6_takeEffect 68 = .ok (.iconst (-1), 1) := by decide +kernel
theorem dX6_takeEffect_69 : decode cX6_takeEffect 69 = .ok (.if_icmp .ne 12, 3) := by decide +kernel
theorem dX6_takeEffect_72 : decode cX6_takeEffect 72 = .ok (.aload 7, 2) := by decide +kernel
theorem dX6_takeEffect_74 : decode cX6_takeEffect 74 = .ok (.aload_n 0, 1) := by decide +kernel
theorem dX6_takeEffect_75 : decode cX6_takeEffect 75 = .ok (.getfield 49, 3) := by decide +kernel
theorem dX6_takeEffect_78 : decode cX6_takeEffect 78 = .ok (.putfield 271, 3) := by decide +kernel
theorem dX6_takeEffect_81 : decode cX6_takeEffect 81 = .ok (.iinc 6 1, 3) := by decide +kernel
theorem dX6_takeEffect_84 : decode cX6_takeEffect 84 = .ok (.goto (-68), 3) := by decide +kernel
theorem dX6_takeEffect_87 : decode cX6_takeEffect 87 = .ok (.lload_n 2, 1) := by decide +kernel
theorem dX6_takeEffect_88 : decode cX6_takeEffect 88 = .ok (.lreturn, 1) := by decide +kernel
theorem dX6_bitOf_0 : decode cX6_bitOf 0 = .ok (.lconst 1, 1) := by decide +kernel
theorem dX6_bitOf_1 : decode cX6_bitOf 1 = .ok (.iload_n 0, 1) := by decide +kernel
theorem dX6_bitOf_2 : decode cX6_bitOf 2 = .ok (.lshl, 1) := by decide +kernel
theorem dX6_bitOf_3 : decode cX6_bitOf 3 = .ok (.lreturn, 1) := by decide +kernel
theorem dX6_sizeOfBest_0 : decode cX6_sizeOfBest 0 = .ok (.aload_n 0, 1) := by decide +kernel
theorem dX6_sizeOfBest_1 : decode cX6_sizeOfBest 1 = .ok (.getfield 39, 3) := by decide +kernel
theorem dX6_sizeOfBest_4 : decode cX6_sizeOfBest 4 = .ok (.invokevirtual 327, 3) := by decide +kernel
theorem dX6_sizeOfBest_7 : decode cX6_sizeOfBest 7 = .ok (.aload_n 1, 1) := by decide +kernel
theorem dX6_sizeOfBest_8 : decode cX6_sizeOfBest 8 = .ok (.iload_n 2, 1) := by decide +kernel
theorem dX6_sizeOfBest_9 : decode cX6_sizeOfBest 9 = .ok (.invokevirtual 206, 3) := by decide +kernel
theorem dX6_sizeOfBest_12 : decode cX6_sizeOfBest 12 = .ok (.bipush 111, 2) := by decide +kernel
theorem dX6_sizeOfBest_14 : decode cX6_sizeOfBest 14 = .ok (.if_icmp .ne 23, 3) := by decide +kernel
theorem dX6_sizeOfBest_17 : decode cX6_sizeOfBest 17 = .ok (.aload_n 0, 1) := by decide +kernel
theorem dX6_sizeOfBest_18 : decode cX6_sizeOfBest 18 = .ok (.getfield 36, 3) := by decide +kernel
theorem dX6_sizeOfBest_21 : decode cX6_sizeOfBest 21 = .ok (.aload_n 1, 1) := by decide +kernel
theorem dX6_sizeOfBest_22 : decode cX6_sizeOfBest 22 = .ok (.iload_n 2, 1) := by decide +kernel
theorem dX6_sizeOfBest_23 : decode cX6_sizeOfBest 23 = .ok (.invokevirtual 198, 3) := by decide +kernel
theorem dX6_sizeOfBest_26 : decode cX6_sizeOfBest 26 = .ok (.aload_n 0, 1) := by decide +kernel
theorem dX6_sizeOfBest_27 : decode cX6_sizeOfBest 27 = .ok (.getfield 36, 3) := by decide +kernel
theorem dX6_sizeOfBest_30 : decode cX6_sizeOfBest 30 = .ok (.aload_n 0, 1) := by decide +kernel
theorem dX6_sizeOfBest_31 : decode cX6_sizeOfBest 31 = .ok (.getfield 39, 3) := by decide +kernel
theorem dX6_sizeOfBest_34 : decode cX6_sizeOfBest 34 = .ok (.invokestatic 330, 3) := by decide +kernel
theorem dX6_sizeOfBest_37 : decode cX6_sizeOfBest 37 = .ok (.aload_n 0, 1) := by decide +kernel
theorem dX6_sizeOfBest_38 : decode cX6_sizeOfBest 38 = .ok (.getfield 39, 3) := by decide +kernel
theorem dX6_sizeOfBest_41 : decode cX6_sizeOfBest 41 = .ok (.getfield 225, 3) := by decide +kernel
theorem dX6_sizeOfBest_44 : decode cX6_sizeOfBest 44 = .ok (.ireturn, 1) := by decide +kernel
theorem dX6_findBest_0 : decode cX6_findBest 0 = .ok (.aload_n 0, 1) := by decide +kernel
theorem dX6_findBest_1 : decode cX6_findBest 1 = .ok (.invokevirtual 286, 3) := by decide +kernel
theorem dX6_findBest_4 : decode cX6_findBest 4 = .ok (.astore_n 2, 1) := by decide +kernel
theorem dX6_findBest_5 : decode cX6_findBest 5 = .ok (.aload_n 2, 1) := by decide +kernel
theorem dX6_findBest_6 : decode cX6_findBest 6 = .ok (.ifnull 21, 3) := by decide +kernel
theorem dX6_findBest_9 : decode cX6_findBest 9 = .ok (.aload_n 1, 1) := by decide +kernel
theorem dX6_findBest_10 : decode cX6_findBest 10 = .ok (.getfield 225, 3) := by decide +kernel
theorem dX6_findBest_13 : decode cX6_findBest 13 = .ok (.ifCond .le 15, 3) := by decide +kernel
theorem dX6_findBest_16 : decode cX6_findBest 16 = .ok (.aload_n 0, 1) := by decide +kernel
theorem dX6_findBest_17 : decode cX6_findBest 17 = .ok (.getfield 225, 3) := by decide +kernel
theorem dX6_findBest_20 : decode cX6_findBest 20 = .ok (.aload_n 1, 1) := by decide +kernel
theorem dX6_findBest_21 : decode cX6_findBest 21 = .ok (.getfield 225, 3) := by decide +kernel
theorem dX6_findBest_24 : decode cX6_findBest 24 = .ok (.if_icmp .lt 4, 3) := by decide +kernel
theorem dX6_findBest_27 : decode cX6_findBest 27 = .ok (.return_, 1) := by decide +kernel
theorem dX6_findBest_28 : decode cX6_findBest 28 = .ok (.aload_n 0, 1) := by decide +kernel
theorem dX6_findBest_29 : decode cX6_findBest 29 = .ok (.invokevirtual 228, 3) := by decide +kernel
theorem dX6_findBest_32 : decode cX6_findBest 32 = .ok (.ifCond .eq 9, 3) := by decide +kernel
theorem dX6_findBest_35 : decode cX6_findBest 35 = .ok (.aload_n 1, 1) := by decide +kernel
theorem dX6_findBest_36 : decode cX6_findBest 36 = .ok (.aload_n 0, 1) := by decide +kernel
theorem dX6_findBest_37 : decode cX6_findBest 37 = .ok (.invokevirtual 334, 3) := by decide +kernel
theorem dX6_findBest_40 : decode cX6_findBest 40 = .ok (.return_, 1) := by decide +kernel
theorem dX6_findBest_41 : decode cX6_findBest 41 = .ok (.iconst 0, 1) := by decide +kernel
theorem dX6_findBest_42 : decode cX6_findBest 42 = .ok (.istore_n 3, 1) := by decide +kernel
theorem dX6_findBest_43 : decode cX6_findBest 43 = .ok (.iload_n 3, 1) := by decide +kernel
theorem dX6_findBest_44 : decode cX6_findBest 44 = .ok (.iconst 3, 1) := by decide +kernel
theorem dX6_findBest_45 : decode cX6_findBest 45 = .ok (.if_icmp .ge 50, 3) := by decide +kernel
theorem dX6_findBest_48 : decode cX6_findBest 48 = .ok (.aload_n 2, 1) := by decide +kernel
theorem dX6_findBest_49 : decode cX6_findBest 49 = .ok (.iload_n 3, 1) := by decide +kernel
theorem dX6_findBest_50 : decode cX6_findBest 50 = .ok (.invokevirtual 281, 3) := by decide +kernel
theorem dX6_findBest_53 : decode cX6_findBest 53 = .ok (.astore 4, 2) := by decide +kernel
theorem dX6_findBest_55 : decode cX6_findBest 55 = .ok (.aload 4, 2) := by decide +kernel
theorem dX6_findBest_57 : decode cX6_findBest 57 = .ok (.ifnull 32, 3) := by decide +kernel
theorem dX6_findBest_60 : decode cX6_findBest 60 = .ok (.aload_n 0, 1) := by decide +kernel
theorem dX6_findBest_61 : decode cX6_findBest 61 = .ok (.aload 4, 2) := by decide +kernel
theorem dX6_findBest_63 : decode cX6_findBest 63 = .ok (.invokevirtual 217, 3) := by decide +kernel
theorem dX6_findBest_66 : decode cX6_findBest 66 = .ok (.bipush 111, 2) := by decide +kernel
theorem dX6_findBest_68 : decode cX6_findBest 68 = .ok (.if_icmp .ne 21, 3) := by decide +kernel
theorem dX6_findBest_71 : decode cX6_findBest 71 = .ok (.aload_n 0, 1) := by decide +kernel
theorem dX6_findBest_72 : decode cX6_findBest 72 = .ok (.aload 4, 2) := by decide +kernel
theorem dX6_findBest_74 : decode cX6_findBest 74 = .ok (.invokevirtual 221, 3) := by decide +kernel
theorem dX6_findBest_77 : decode cX6_findBest 77 = .ok (.ifCond .eq 12, 3) := by decide +kernel
theorem dX6_findBest_80 : decode cX6_findBest 80 = .ok (.aload_n 0, 1) := by decide +kernel
theorem dX6_findBest_81 : decode cX6_findBest 81 = .ok (.aload_n 1, 1) := by decide +kernel
theorem dX6_findBest_82 : decode cX6_findBest 82 = .ok (.invokestatic 330, 3) := by decide +kernel
theorem dX6_findBest_85 : decode cX6_findBest 85 = .ok (.aload_n 0, 1) := by decide +kernel
theorem dX6_findBest_86 : decode cX6_findBest 86 = .ok (.invokevirtual 338, 3) := by decide +kernel
theorem dX6_findBest_89 : decode cX6_findBest 89 = .ok (.iinc 3 1, 3) := by decide +kernel
theorem dX6_findBest_92 : decode cX6_findBest 92 = .ok (.goto (-49), 3) := by decide +kernel
theorem dX6_findBest_95 : decode cX6_findBest 95 = .ok (.return_, 1) := by decide +kernel
theorem dX6_countLengthened_0 : decode cX6_countLengthened 0 = .ok (.aload_n 0, 1) := by decide +kernel
theorem dX6_countLengthened_1 : decode cX6_countLengthened 1 = .ok (.invokevirtual 286, 3) := by decide +kernel
theorem dX6_countLengthened_4 : decode cX6_countLengthened 4 = .ok (.astore_n 1, 1) := by decide +kernel
theorem dX6_countLengthened_5 : decode cX6_countLengthened 5 = .ok (.aload_n 1, 1) := by decide +kernel
theorem dX6_countLengthened_6 : decode cX6_countLengthened 6 = .ok (.ifnonnull 5, 3) := by decide +kernel
theorem dX6_countLengthened_9 : decode cX6_countLengthened 9 = .ok (.iconst 0, 1) := by decide +kernel
theorem dX6_countLengthened_10 : decode cX6_countLengthened 10 = .ok (.ireturn, 1) := by decide +kernel
theorem dX6_countLengthened_11 : decode cX6_countLengthened 11 = .ok (.aload_n 0, 1) := by decide +kernel
theorem dX6_countLengthened_12 : decode cX6_countLengthened 12 = .ok (.invokevirtual 228, 3) := by decide +kernel
theorem dX6_countLengthened_15 : decode cX6_countLengthened 15 = .ok (.ifCond .eq 7, 3) := by decide +kernel
theorem dX6_countLengthened_18 : decode cX6_countLengthened 18 = .ok (.iconst 1, 1) := by decide +kernel
theorem dX6_countLengthened_19 : decode cX6_countLengthened 19 = .ok (.goto 4, 3) := by decide +kernel
theorem dX6_countLengthened_22 : decode cX6_countLengthened 22 = .ok (.iconst 0, 1) := by decide +kernel
theorem dX6_countLengthened_23 : decode cX6_countLengthened 23 = .ok (.istore_n 2, 1) := by decide +kernel
theorem dX6_countLengthened_24 : decode cX6_countLengthened 24 = .ok (.iconst 0, 1) := by decide +kernel
theorem dX6_countLengthened_25 : decode cX6_countLengthened 25 = .ok (.istore_n 3, 1) := by decide +kernel
theorem dX6_countLengthened_26 : decode cX6_countLengthened 26 = .ok (.iload_n 3, 1) := by decide +kernel
theorem dX6_countLengthened_27 : decode cX6_countLengthened 27 = .ok (.iconst 3, 1) := by decide +kernel
theorem dX6_countLengthened_28 : decode cX6_countLengthened 28 = .ok (.if_icmp .ge 52, 3) := by decide +kernel
theorem dX6_countLengthened_31 : decode cX6_countLengthened 31 = .ok (.aload_n 1, 1) := by decide +kernel
theorem dX6_countLengthened_32 : decode cX6_countLengthened 32 = .ok (.iload_n 3, 1) := by decide +kernel
theorem dX6_countLengthened_33 : decode cX6_countLengthened 33 = .ok (.invokevirtual 281, 3) := by decide +kernel
theorem dX6_countLengthened_36 : decode cX6_countLengthened 36 = .ok (.astore 4, 2) := by decide +kernel
theorem dX6_countLengthened_38 : decode cX6_countLengthened 38 = .ok (.aload 4, 2) := by decide +kernel
theorem dX6_countLengthened_40 : decode cX6_countLengthened 40 = .ok (.ifnull 34, 3) := by decide +kernel
theorem dX6_countLengthened_43 : decode cX6_countLengthened 43 = .ok (.aload_n 0, 1) := by decide +kernel
theorem dX6_countLengthened_44 : decode cX6_countLengthened 44 = .ok (.aload 4, 2) := by decide +kernel
theorem dX6_countLengthened_46 : decode cX6_countLengthened 46 = .ok (.invokevirtual 217, 3) := by decide +kernel
theorem dX6_countLengthened_49 : decode cX6_countLengthened 49 = .ok (.bipush 111, 2) := by decide +kernel
theorem dX6_countLengthened_51 : decode cX6_countLengthened 51 = .ok (.if_icmp .ne 23, 3) := by decide +kernel
theorem dX6_countLengthened_54 : decode cX6_countLengthened 54 = .ok (.aload_n 0, 1) := by decide +kernel
theorem dX6_countLengthened_55 : decode cX6_countLengthened 55 = .ok (.aload 4, 2) := by decide +kernel
theorem dX6_countLengthened_57 : decode cX6_countLengthened 57 = .ok (.invokevirtual 221, 3) := by decide +kernel
theorem dX6_countLengthened_60 : decode cX6_countLengthened 60 = .ok (.ifCond .eq 14, 3) := by decide +kernel
theorem dX6_countLengthened_63 : decode cX6_countLengthened 63 = .ok (.iload_n 2, 1) := by decide +kernel
theorem dX6_countLengthened_64 : decode cX6_countLengthened 64 = .ok (.aload_n 0, 1) := by decide +kernel
theorem dX6_countLengthened_65 : decode cX6_countLengthened 65 = .ok (.invokestatic 210, 3) := by decide +kernel
theorem dX6_countLengthened_68 : decode cX6_countLengthened 68 = .ok (.iadd, 1) := by decide +kernel
theorem dX6_countLengthened_69 : decode cX6_countLengthened 69 = .ok (.istore_n 2, 1) := by decide +kernel
theorem dX6_countLengthened_70 : decode cX6_countLengthened 70 = .ok (.aload_n 0, 1) := by decide +kernel
theorem dX6_countLengthened_71 : decode cX6_countLengthened 71 = .ok (.invokevirtual 338, 3) := by decide +kernel
theorem dX6_countLengthened_74 : decode cX6_countLengthened 74 = .ok (.iinc 3 1, 3) := by decide +kernel
theorem dX6_countLengthened_77 : decode cX6_countLengthened 77 = .ok (.goto (-51), 3) := by decide +kernel
theorem dX6_countLengthened_80 : decode cX6_countLengthened 80 = .ok (.iload_n 2, 1) := by decide +kernel
theorem dX6_countLengthened_81 : decode cX6_countLengthened 81 = .ok (.ireturn, 1) := by decide +kernel
theorem dX6_countJudged_0 : decode cX6_countJudged 0 = .ok (.aload_n 0, 1) := by decide +kernel
theorem dX6_countJudged_1 : decode cX6_countJudged 1 = .ok (.invokevirtual 286, 3) := by decide +kernel
theorem dX6_countJudged_4 : decode cX6_countJudged 4 = .ok (.astore_n 1, 1) := by decide +kernel
theorem dX6_countJudged_5 : decode cX6_countJudged 5 = .ok (.aload_n 1, 1) := by decide +kernel
theorem dX6_countJudged_6 : decode cX6_countJudged 6 = .ok (.ifnonnull 5, 3) := by decide +kernel
theorem dX6_countJudged_9 : decode cX6_countJudged 9 = .ok (.iconst 0, 1) := by decide +kernel
theorem dX6_countJudged_10 : decode cX6_countJudged 10 = .ok (.ireturn, 1) := by decide +kernel
theorem dX6_countJudged_11 : decode cX6_countJudged 11 = .ok (.aload_n 0, 1) := by decide +kernel
theorem dX6_countJudged_12 : decode cX6_countJudged 12 = .ok (.invokevirtual 341, 3) := by decide +kernel
theorem dX6_countJudged_15 : decode cX6_countJudged 15 = .ok (.ifCond .eq 7, 3) := by decide +kernel
theorem dX6_countJudged_18 : decode cX6_countJudged 18 = .ok (.iconst 1, 1) := by decide +kernel
theorem dX6_countJudged_19 : decode cX6_countJudged 19 = .ok (.goto 4, 3) := by decide +kernel
theorem dX6_countJudged_22 : decode cX6_countJudged 22 = .ok (.iconst 0, 1) := by decide +kernel
theorem dX6_countJudged_23 : decode cX6_countJudged 23 = .ok (.istore_n 2, 1) := by decide +kernel
theorem dX6_countJudged_24 : decode cX6_countJudged 24 = .ok (.iconst 0, 1) := by decide +kernel
theorem dX6_countJudged_25 : decode cX6_countJudged 25 = .ok (.istore_n 3, 1) := by decide +kernel
theorem dX6_countJudged_26 : decode cX6_countJudged 26 = .ok (.iload_n 3, 1) := by decide +kernel
theorem dX6_countJudged_27 : decode cX6_countJudged 27 = .ok (.iconst 3, 1) := by decide +kernel
theorem dX6_countJudged_28 : decode cX6_countJudged 28 = .ok (.if_icmp .ge 50, 3) := by decide +kernel
theorem dX6_countJudged_31 : decode cX6_countJudged 31 = .ok (.aload_n 1, 1) := by decide +kernel
theorem dX6_countJudged_32 : decode cX6_countJudged 32 = .ok (.iload_n 3, 1) := by decide +kernel
theorem dX6_countJudged_33 : decode cX6_countJudged 33 = .ok (.invokevirtual 281, 3) := by decide +kernel
theorem dX6_countJudged_36 : decode cX6_countJudged 36 = .ok (.astore 4, 2) := by decide +kernel
theorem dX6_countJudged_38 : decode cX6_countJudged 38 = .ok (.aload 4, 2) := by decide +kernel
theorem dX6_countJudged_40 : decode cX6_countJudged 40 = .ok (.ifnull 32, 3) := by decide +kernel
theorem dX6_countJudged_43 : decode cX6_countJudged 43 = .ok (.aload_n 0, 1) := by decide +kernel
theorem dX6_countJudged_44 : decode cX6_countJudged 44 = .ok (.aload 4, 2) := by decide +kernel
theorem dX6_countJudged_46 : decode cX6_countJudged 46 = .ok (.invokevirtual 344, 3) := by decide +kernel
theorem dX6_countJudged_49 : decode cX6_countJudged 49 = .ok (.ifCond .ne 23, 3) := by decide +kernel
theorem dX6_countJudged_52 : decode cX6_countJudged 52 = .ok (.aload_n 0, 1) := by decide +kernel
theorem dX6_countJudged_53 : decode cX6_countJudged 53 = .ok (.aload 4, 2) := by decide +kernel
theorem dX6_countJudged_55 : decode cX6_countJudged 55 = .ok (.invokevirtual 221, 3) := by decide +kernel
theorem dX6_countJudged_58 : decode cX6_countJudged 58 = .ok (.ifCond .eq 14, 3) := by decide +kernel
theorem dX6_countJudged_61 : decode cX6_countJudged 61 = .ok (.iload_n 2, 1) := by decide +kernel
theorem dX6_countJudged_62 : decode cX6_countJudged 62 = .ok (.aload_n 0, 1) := by decide +kernel
theorem dX6_countJudged_63 : decode cX6_countJudged 63 = .ok (.invokestatic 202, 3) := by decide +kernel
theorem dX6_countJudged_66 : decode cX6_countJudged 66 = .ok (.iadd, 1) := by decide +kernel
theorem dX6_countJudged_67 : decode cX6_countJudged 67 = .ok (.istore_n 2, 1) := by decide +kernel
theorem dX6_countJudged_68 : decode cX6_countJudged 68 = .ok (.aload_n 0, 1) := by decide +kernel
theorem dX6_countJudged_69 : decode cX6_countJudged 69 = .ok (.invokevirtual 338, 3) := by decide +kernel
theorem dX6_countJudged_72 : decode cX6_countJudged 72 = .ok (.iinc 3 1, 3) := by decide +kernel
theorem dX6_countJudged_75 : decode cX6_countJudged 75 = .ok (.goto (-49), 3) := by decide +kernel
theorem dX6_countJudged_78 : decode cX6_countJudged 78 = .ok (.iload_n 2, 1) := by decide +kernel
theorem dX6_countJudged_79 : decode cX6_countJudged 79 = .ok (.ireturn, 1) := by decide +kernel
theorem dX6_prove_0 : decode cX6_prove 0 = .ok (.aload_n 0, 1) := by decide +kernel
theorem dX6_prove_1 : decode cX6_prove 1 = .ok (.iload_n 2, 1) := by decide +kernel
theorem dX6_prove_2 : decode cX6_prove 2 = .ok (.invokevirtual 231, 3) := by decide +kernel
theorem dX6_prove_5 : decode cX6_prove 5 = .ok (.iload_n 1, 1) := by decide +kernel
theorem dX6_prove_6 : decode cX6_prove 6 = .ok (.ifCond .lt 8, 3) := by decide +kernel
theorem dX6_prove_9 : decode cX6_prove 9 = .ok (.iload_n 1, 1) := by decide +kernel
theorem dX6_prove_10 : decode cX6_prove 10 = .ok (.iload_n 2, 1) := by decide +kernel
theorem dX6_prove_11 : decode cX6_prove 11 = .ok (.if_icmp .lt 14, 3) := by decide +kernel
theorem dX6_prove_14 : decode cX6_prove 14 = .ok (.new 193, 3) := by decide +kernel
theorem dX6_prove_17 : decode cX6_prove 17 = .ok (.dup, 1) := by decide +kernel
theorem dX6_prove_18 : decode cX6_prove 18 = .ok (.ldc_w 347, 3) := by decide +kernel
theorem dX6_prove_21 : decode cX6_prove 21 = .ok (.invokespecial 197, 3) := by decide +kernel
theorem dX6_prove_24 : decode cX6_prove 24 = .ok (.athrow, 1) := by decide +kernel
theorem dX6_prove_25 : decode cX6_prove 25 = .ok (.aload_n 0, 1) := by decide +kernel
theorem dX6_prove_26 : decode cX6_prove 26 = .ok (.getfield 25, 3) := by decide +kernel
theorem dX6_prove_29 : decode cX6_prove 29 = .ok (.iload_n 1, 1) := by decide +kernel
theorem dX6_prove_30 : decode cX6_prove 30 = .ok (.iload_n 2, 1) := by decide +kernel
theorem dX6_prove_31 : decode cX6_prove 31 = .ok (.invokevirtual 349, 3) := by decide +kernel
theorem dX6_prove_34 : decode cX6_prove 34 = .ok (.areturn, 1) := by decide +kernel
theorem dX6_proveGrowth_0 : decode cX6_proveGrowth 0 = .ok (.aload_n 0, 1) := by decide +kernel
theorem dX6_proveGrowth_1 : decode cX6_proveGrowth 1 = .ok (.iload_n 2, 1) := by decide +kernel
theorem dX6_proveGrowth_2 : decode cX6_proveGrowth 2 = .ok (.invokevirtual 231, 3) := by decide +kernel
theorem dX6_proveGrowth_5 : decode cX6_proveGrowth 5 = .ok (.iload_n 1, 1) := by decide +kernel
theorem dX6_proveGrowth_6 : decode cX6_proveGrowth 6 = .ok (.iconst 1, 1) := by decide +kernel
theorem dX6_proveGrowth_7 : decode cX6_proveGrowth 7 = .ok (.if_icmp .lt 8, 3) := by decide +kernel
theorem dX6_proveGrowth_10 : decode cX6_proveGrowth 10 = .ok (.iload_n 1, 1) := by decide +kernel
theorem dX6_proveGrowth_11 : decode cX6_proveGrowth 11 = .ok (.iload_n 2, 1) := by decide +kernel
theorem dX6_proveGrowth_12 : decode cX6_proveGrowth 12 = .ok (.if_icmp .le 14, 3) := by decide +kernel
theorem dX6_proveGrowth_15 : decode cX6_proveGrowth 15 = .ok (.new 193, 3) := by decide +kernel
theorem dX6_proveGrowth_18 : decode cX6_proveGrowth 18 = .ok (.dup, 1) := by decide +kernel
theorem dX6_proveGrowth_19 : decode cX6_proveGrowth 19 = .ok (.ldc_w 352, 3) := by decide +kernel
theorem dX6_proveGrowth_22 : decode cX6_proveGrowth 22 = .ok (.invokespecial 197, 3) := by decide +kernel
theorem dX6_proveGrowth_25 : decode cX6_proveGrowth 25 = .ok (.athrow, 1) := by decide +kernel
theorem dX6_proveGrowth_26 : decode cX6_proveGrowth 26 = .ok (.aload_n 0, 1) := by decide +kernel
theorem dX6_proveGrowth_27 : decode cX6_proveGrowth 27 = .ok (.getfield 25, 3) := by decide +kernel
theorem dX6_proveGrowth_30 : decode cX6_proveGrowth 30 = .ok (.iload_n 1, 1) := by decide +kernel
theorem dX6_proveGrowth_31 : decode cX6_proveGrowth 31 = .ok (.iload_n 2, 1) := by decide +kernel
theorem dX6_proveGrowth_32 : decode cX6_proveGrowth 32 = .ok (.invokevirtual 354, 3) := by decide +kernel
theorem dX6_proveGrowth_35 : decode cX6_proveGrowth 35 = .ok (.areturn, 1) := by decide +kernel
theorem dX6_hashAt_0 : decode cX6_hashAt 0 = .ok (.aload_n 0, 1) := by decide +kernel
theorem dX6_hashAt_1 : decode cX6_hashAt 1 = .ok (.iload_n 1, 1) := by decide +kernel
theorem dX6_hashAt_2 : decode cX6_hashAt 2 = .ok (.invokevirtual 357, 3) := by decide +kernel
theorem dX6_hashAt_5 : decode cX6_hashAt 5 = .ok (.ifCond .ne 14, 3) := by decide +kernel
theorem dX6_hashAt_8 : decode cX6_hashAt 8 = .ok (.new 193, 3) := by decide +kernel
theorem dX6_hashAt_11 : decode cX6_hashAt 11 = .ok (.dup, 1) := by decide +kernel
theorem dX6_hashAt_12 : decode cX6_hashAt 12 = .ok (.ldc_w 360, 3) := by decide +kernel
theorem dX6_hashAt_15 : decode cX6_hashAt 15 = .ok (.invokespecial 197, 3) := by decide +kernel
theorem dX6_hashAt_18 : decode cX6_hashAt 18 = .ok (.athrow, 1) := by decide +kernel
theorem dX6_hashAt_19 : decode cX6_hashAt 19 = .ok (.aload_n 0, 1) := by decide +kernel
theorem dX6_hashAt_20 : decode cX6_hashAt 20 = .ok (.iload_n 1, 1) := by decide +kernel
theorem dX6_hashAt_21 : decode cX6_hashAt 21 = .ok (.invokevirtual 362, 3) := by decide +kernel
theorem dX6_hashAt_24 : decode cX6_hashAt 24 = .ok (.lreturn, 1) := by decide +kernel
theorem dX7_init_0 : decode cX7_init 0 = .ok (.aload_n 0, 1) := by decide +kernel
theorem dX7_init_1 : decode cX7_init 1 = .ok (.invokespecial 1, 3) := by decide +kernel
theorem dX7_init_4 : decode cX7_init 4 = .ok (.aload_n 0, 1) := by decide +kernel
theorem dX7_init_5 : decode cX7_init 5 = .ok (.bipush 40, 2) := by decide +kernel
theorem dX7_init_7 : decode cX7_init 7 = .ok (.newarray .int, 2) := by decide +kernel
theorem dX7_init_9 : decode cX7_init 9 = .ok (.putfield 9, 3) := by decide +kernel
theorem dX7_init_12 : decode cX7_init 12 = .ok (.aload_n 0, 1) := by decide +kernel
theorem dX7_init_13 : decode cX7_init 13 = .ok (.bipush 40, 2) := by decide +kernel
theorem dX7_init_15 : decode cX7_init 15 = .ok (.newarray .int, 2) := by decide +kernel
theorem dX7_init_17 : decode cX7_init 17 = .ok (.putfield 13, 3) := by decide +kernel
theorem dX7_init_20 : decode cX7_init 20 = .ok (.aload_n 0, 1) := by decide +kernel
theorem dX7_init_21 : decode cX7_init 21 = .ok (.bipush 40, 2) := by decide +kernel
theorem dX7_init_23 : decode cX7_init 23 = .ok (.newarray .int, 2) := by decide +kernel
theorem dX7_init_25 : decode cX7_init 25 = .ok (.putfield 16, 3) := by decide +kernel
theorem dX7_init_28 : decode cX7_init 28 = .ok (.aload_n 0, 1) := by decide +kernel
theorem dX7_init_29 : decode cX7_init 29 = .ok (.bipush 40, 2) := by decide +kernel
theorem dX7_init_31 : decode cX7_init 31 = .ok (.newarray .int, 2) := by decide +kernel
theorem dX7_init_33 : decode cX7_init 33 = .ok (.putfield 19, 3) := by decide +kernel
theorem dX7_init_36 : decode cX7_init 36 = .ok (.aload_n 0, 1) := by decide +kernel
theorem dX7_init_37 : decode cX7_init 37 = .ok (.bipush 40, 2) := by decide +kernel
theorem dX7_init_39 : decode cX7_init 39 = .ok (.newarray .int, 2) := by decide +kernel
theorem dX7_init_41 : decode cX7_init 41 = .ok (.putfield 22, 3) := by decide +kernel
theorem dX7_init_44 : decode cX7_init 44 = .ok (.aload_n 0, 1) := by decide +kernel
theorem dX7_init_45 : decode cX7_init 45 = .ok (.bipush 40, 2) := by decide +kernel
theorem dX7_init_47 : decode cX7_init 47 = .ok (.newarray .int, 2) := by decide +kernel
theorem dX7_init_49 : decode cX7_init 49 = .ok (.putfield 25, 3) := by decide +kernel
theorem dX7_init_52 : decode cX7_init 52 = .ok (.aload_n 0, 1) := by decide +kernel
theorem dX7_init_53 : decode cX7_init 53 = .ok (.bipush 40, 2) := by decide +kernel
theorem dX7_init_55 : decode cX7_init 55 = .ok (.newarray .int, 2) := by decide +kernel
theorem dX7_init_57 : decode cX7_init 57 = .ok (.putfield 28, 3) := by decide +kernel
theorem dX7_init_60 : decode cX7_init 60 = .ok (.aload_n 0, 1) := by decide +kernel
theorem dX7_init_61 : decode cX7_init 61 = .ok (.bipush 40, 2) := by decide +kernel
theorem dX7_init_63 : decode cX7_init 63 = .ok (.newarray .int, 2) := by decide +kernel
theorem dX7_init_65 : decode cX7_init 65 = .ok (.putfield 31, 3) := by decide +kernel
theorem dX7_init_68 : decode cX7_init 68 = .ok (.aload_n 0, 1) := by decide +kernel
theorem dX7_init_69 : decode cX7_init 69 = .ok (.bipush 40, 2) := by decide +kernel
theorem dX7_init_71 : decode cX7_init 71 = .ok (.newarray .int, 2) := by decide +kernel
theorem dX7_init_73 : decode cX7_init 73 = .ok (.putfield 34, 3) := by decide +kernel
theorem dX7_init_76 : decode cX7_init 76 = .ok (.aload_n 0, 1) := by decide +kernel
theorem dX7_init_77 : decode cX7_init 77 = .ok (.bipush 40, 2) := by decide +kernel
theorem dX7_init_79 : decode cX7_init 79 = .ok (.newarray .int, 2) := by decide +kernel
theorem dX7_init_81 : decode cX7_init 81 = .ok (.putfield 37, 3) := by decide +kernel
theorem dX7_init_84 : decode cX7_init 84 = .ok (.aload_n 0, 1) := by decide +kernel
theorem dX7_init_85 : decode cX7_init 85 = .ok (.bipush 40, 2) := by decide +kernel
theorem dX7_init_87 : decode cX7_init 87 = .ok (.newarray .boolean, 2) := by decide +kernel
theorem dX7_init_89 : decode cX7_init 89 = .ok (.putfield 40, 3) := by decide +kernel
theorem dX7_init_92 : decode cX7_init 92 = .ok (.aload_n 0, 1) := by decide +kernel
theorem dX7_init_93 : decode cX7_init 93 = .ok (.bipush 40, 2) := by decide +kernel
theorem dX7_init_95 : decode cX7_init 95 = .ok (.newarray .boolean, 2) := by decide +kernel
theorem dX7_init_97 : decode cX7_init 97 = .ok (.putfield 44, 3) := by decide +kernel
theorem dX7_init_100 : decode cX7_init 100 = .ok (.aload_n 0, 1) := by decide +kernel
theorem dX7_init_101 : decode cX7_init 101 = .ok (.bipush 40, 2) := by decide +kernel
theorem dX7_init_103 : decode cX7_init 103 = .ok (.newarray .boolean, 2) := by decide +kernel
theorem dX7_init_105 : decode cX7_init 105 = .ok (.putfield 47, 3) := by decide +kernel
theorem dX7_init_108 : decode cX7_init 108 = .ok (.aload_n 0, 1) := by decide +kernel
theorem dX7_init_109 : decode cX7_init 109 = .ok (.bipush 40, 2) := by decide +kernel
theorem dX7_init_111 : decode cX7_init 111 = .ok (.newarray .boolean, 2) := by decide +kernel
theorem dX7_init_113 : decode cX7_init 113 = .ok (.putfield 50, 3) := by decide +kernel
theorem dX7_init_116 : decode cX7_init 116 = .ok (.aload_n 0, 1) := by decide +kernel
theorem dX7_init_117 : decode cX7_init 117 = .ok (.bipush 8, 2) := by decide +kernel
theorem dX7_init_119 : decode cX7_init 119 = .ok (.newarray .int, 2) := by decide +kernel
theorem dX7_init_121 : decode cX7_init 121 = .ok (.putfield 53, 3) := by decide +kernel
theorem dX7_init_124 : decode cX7_init 124 = .ok (.aload_n 0, 1) := by decide +kernel
theorem dX7_init_125 : decode cX7_init 125 = .ok (.bipush 40, 2) := by decide +kernel
theorem dX7_init_127 : decode cX7_init 127 = .ok (.newarray .int, 2) := by decide +kernel
theorem dX7_init_129 : decode cX7_init 129 = .ok (.putfield 56, 3) := by decide +kernel
theorem dX7_init_132 : decode cX7_init 132 = .ok (.aload_n 0, 1) := by decide +kernel
theorem dX7_init_133 : decode cX7_init 133 = .ok (.bipush 40, 2) := by decide +kernel
theorem dX7_init_135 : decode cX7_init 135 = .ok (.newarray .long, 2) := by decide +kernel
theorem dX7_init_137 : decode cX7_init 137 = .ok (.putfield 59, 3) := by decide +kernel
theorem dX7_init_140 : decode cX7_init 140 = .ok (.return_, 1) := by decide +kernel
theorem dX7_thrown_0 : decode cX7_thrown 0 = .ok (.aload_n 0, 1) := by decide +kernel
theorem dX7_thrown_1 : decode cX7_thrown 1 = .ok (.getfield 63, 3) := by decide +kernel
theorem dX7_thrown_4 : decode cX7_thrown 4 = .ok (.ireturn, 1) := by decide +kernel
theorem dX7_isIn_0 : decode cX7_isIn 0 = .ok (.iload_n 0, 1) := by decide +kernel
theorem dX7_isIn_1 : decode cX7_isIn 1 = .ok (.iload_n 1, 1) := by decide +kernel
theorem dX7_isIn_2 : decode cX7_isIn 2 = .ok (.if_icmp .lt 12, 3) := by decide +kernel
theorem dX7_isIn_5 : decode cX7_isIn 5 = .ok (.iload_n 0, 1) := by decide +kernel
theorem dX7_isIn_6 : decode cX7_isIn 6 = .ok (.iload_n 2, 1) := by decide +kernel
theorem dX7_isIn_7 : decode cX7_isIn 7 = .ok (.if_icmp .gt 7, 3) := by decide +kernel
theorem dX7_isIn_10 : decode cX7_isIn 10 = .ok (.iconst 1, 1) := by decide +kernel
theorem dX7_isIn_11 : decode cX7_isIn 11 = .ok (.goto 4, 3) := by decide +kernel
theorem dX7_isIn_14 : decode cX7_isIn 14 = .ok (.iconst 0, 1) := by decide +kernel
theorem dX7_isIn_15 : decode cX7_isIn 15 = .ok (.ireturn, 1) := by decide +kernel
theorem dX7_isThrown_0 : decode cX7_isThrown 0 = .ok (.aload_n 0, 1) := by decide +kernel
theorem dX7_isThrown_1 : decode cX7_isThrown 1 = .ok (.iload_n 1, 1) := by decide +kernel
theorem dX7_isThrown_2 : decode cX7_isThrown 2 = .ok (.ifCond .eq 7, 3) := by decide +kernel
theorem dX7_isThrown_5 : decode cX7_isThrown 5 = .ok (.iload_n 2, 1) := by decide +kernel
theorem dX7_isThrown_6 : decode cX7_isThrown 6 = .ok (.goto 4, 3) := by decide +kernel
theorem dX7_isThrown_9 : decode cX7_isThrown 9 = .ok (.iconst 0, 1) := by decide +kernel
theorem dX7_isThrown_10 : decode cX7_isThrown 10 = .ok (.putfield 63, 3) := by decide +kernel
theorem dX7_isThrown_13 : decode cX7_isThrown 13 = .ok (.iload_n 1, 1) := by decide +kernel
theorem dX7_isThrown_14 : decode cX7_isThrown 14 = .ok (.ireturn, 1) := by decide +kernel
theorem dX7_isName_0 : decode cX7_isName 0 = .ok (.iload_n 0, 1) := by decide +kernel
theorem dX7_isName_1 : decode cX7_isName 1 = .ok (.iconst 1, 1) := by decide +kernel
theorem dX7_isName_2 : decode cX7_isName 2 = .ok (.sipush 9999, 3) := by decide +kernel
theorem dX7_isName_5 : decode cX7_isName 5 = .ok (.invokestatic 67, 3) := by decide +kernel
theorem dX7_isName_8 : decode cX7_isName 8 = .ok (.istore_n 1, 1) := by decide +kernel
theorem dX7_isName_9 : decode cX7_isName 9 = .ok (.iload_n 0, 1) := by decide +kernel
theorem dX7_isName_10 : decode cX7_isName 10 = .ok (.istore_n 2, 1) := by decide +kernel
theorem dX7_isName_11 : decode cX7_isName 11 = .ok (.iload_n 2, 1) := by decide +kernel
theorem dX7_isName_12 : decode cX7_isName 12 = .ok (.ifCond .le 26, 3) := by decide +kernel
theorem dX7_isName_15 : decode cX7_isName 15 = .ok (.iload_n 1, 1) := by decide +kernel
theorem dX7_isName_16 : decode cX7_isName 16 = .ok (.iload_n 2, 1) := by decide +kernel
theorem dX7_isName_17 : decode cX7_isName 17 = .ok (.bipush 10, 2) := by decide +kernel
theorem dX7_isName_19 : decode cX7_isName 19 = .ok (.irem, 1) := by decide +kernel
theorem dX7_isName_20 : decode cX7_isName 20 = .ok (.ifCond .eq 7, 3) := by decide +kernel
theorem dX7_isName_23 : decode cX7_isName 23 = .ok (.iconst 1, 1) := by decide +kernel
theorem dX7_isName_24 : decode cX7_isName 24 = .ok (.goto 4, 3) := by decide +kernel
theorem dX7_isName_27 : decode cX7_isName 27 = .ok (.iconst 0, 1) := by decide +kernel
theorem dX7_isName_28 : decode cX7_isName 28 = .ok (.iand, 1) := by decide +kernel
theorem dX7_isName_29 : decode cX7_isName 29 = .ok (.istore_n 1, 1) := by decide +kernel
theorem dX7_isName_30 : decode cX7_isName 30 = .ok (.iload_n 2, 1) := by decide +kernel
theorem dX7_isName_31 : decode cX7_isName 31 = .ok (.bipush 10, 2) := by decide +kernel
theorem dX7_isName_33 : decode cX7_isName 33 = .ok (.idiv, 1) := by decide +kernel
theorem dX7_isName_34 : decode cX7_isName 34 = .ok (.istore_n 2, 1) := by decide +kernel
theorem dX7_isName_35 : decode cX7_isName 35 = .ok (.goto (-24), 3) := by decide +kernel
theorem dX7_isName_38 : decode cX7_isName 38 = .ok (.iload_n 1, 1) := by decide +kernel
theorem dX7_isName_39 : decode cX7_isName 39 = .ok (.ireturn, 1) := by decide +kernel
theorem dX7_isUnder_0 : decode cX7_isUnder 0 = .ok (.iload_n 0, 1) := by decide +kernel
theorem dX7_isUnder_1 : decode cX7_isUnder 1 = .ok (.istore_n 2, 1) := by decide +kernel
theorem dX7_isUnder_2 : decode cX7_isUnder 2 = .ok (.iload_n 2, 1) := by decide +kernel
theorem dX7_isUnder_3 : decode cX7_isUnder 3 = .ok (.iload_n 1, 1) := by decide +kernel
theorem dX7_isUnder_4 : decode cX7_isUnder 4 = .ok (.if_icmp .le 11, 3) := by decide +kernel
theorem dX7_isUnder_7 : decode cX7_isUnder 7 = .ok (.iload_n 2, 1) := by decide +kernel
theorem dX7_isUnder_8 : decode cX7_isUnder 8 = .ok (.bipush 10, 2) := by decide +kernel
theorem dX7_isUnder_10 : decode cX7_isUnder 10 = .ok (.idiv, 1) := by decide +kernel
theorem dX7_isUnder_11 : decode cX7_isUnder 11 = .ok (.istore_n 2, 1) := by decide +kernel
theorem dX7_isUnder_12 : decode cX7_isUnder 12 = .ok (.goto (-10), 3) := by decide +kernel
theorem dX7_isUnder_15 : decode cX7_isUnder 15 = .ok (.iload_n 2, 1) := by decide +kernel
theorem dX7_isUnder_16 : decode cX7_isUnder 16 = .ok (.iload_n 1, 1) := by decide +kernel
theorem dX7_isUnder_17 : decode cX7_isUnder 17 = .ok (.if_icmp .ne 7, 3) := by decide +kernel
theorem dX7_isUnder_20 : decode cX7_isUnder 20 = .ok (.iconst 1, 1) := by decide +kernel
theorem dX7_isUnder_21 : decode cX7_isUnder 21 = .ok (.goto 4, 3) := by decide +kernel
theorem dX7_isUnder_24 : decode cX7_isUnder 24 = .ok (.iconst 0, 1) := by decide +kernel
theorem dX7_isUnder_25 : decode cX7_isUnder 25 = .ok (.ireturn, 1) := by decide +kernel
theorem dX7_isThere_0 : decode cX7_isThere 0 = .ok (.iload_n 1, 1) := by decide +kernel
theorem dX7_isThere_1 : decode cX7_isThere 1 = .ok (.iconst 0, 1) := by decide +kernel
theorem dX7_isThere_2 : decode cX7_isThere 2 = .ok (.aload_n 0, 1) := by decide +kernel
theorem dX7_isThere_3 : decode cX7_isThere 3 = .ok (.getfield 71, 3) := by decide +kernel
theorem dX7_isThere_6 : decode cX7_isThere 6 = .ok (.iconst 1, 1) := by decide +kernel
theorem dX7_isThere_7 : decode cX7_isThere 7 = .ok (.isub, 1) := by decide +kernel
theorem dX7_isThere_8 : decode cX7_isThere 8 = .ok (.invokestatic 67, 3) := by decide +kernel
theorem dX7_isThere_11 : decode cX7_isThere 11 = .ok (.ireturn, 1) := by decide +kernel
theorem dX7_isNone_0 : decode cX7_isNone 0 = .ok (.aload_n 0, 1) := by decide +kernel
theorem dX7_isNone_1 : decode cX7_isNone 1 = .ok (.aload_n 0, 1) := by decide +kernel
theorem dX7_isNone_2 : decode cX7_isNone 2 = .ok (.iload_n 1, 1) := by decide +kernel
theorem dX7_isNone_3 : decode cX7_isNone 3 = .ok (.invokevirtual 74, 3) := by decide +kernel
theorem dX7_isNone_6 : decode cX7_isNone 6 = .ok (.ifCond .ne 7, 3) := by decide +kernel
theorem dX7_isNone_9 : decode cX7_isNone 9 = .ok (.iconst 1, 1) := by decide +kernel
theorem dX7_isNone_10 : decode cX7_isNone 10 = .ok (.goto 4, 3) := by decide +kernel
theorem dX7_isNone_13 : decode cX7_isNone 13 = .ok (.iconst 0, 1) := by decide +kernel
theorem dX7_isNone_14 : decode cX7_isNone 14 = .ok (.iconst 1, 1) := by decide +kernel
theorem dX7_isNone_15 : decode cX7_isNone 15 = .ok (.invokevirtual 78, 3) := by decide +kernel
theorem dX7_isNone_18 : decode cX7_isNone 18 = .ok (.ireturn, 1) := by decide +kernel
theorem dX7_makes_0 : decode cX7_makes 0 = .ok (.aload_n 0, 1) := by decide +kernel
theorem dX7_makes_1 : decode cX7_makes 1 = .ok (.getfield 9, 3) := by decide +kernel
theorem dX7_makes_4 : decode cX7_makes 4 = .ok (.aload_n 0, 1) := by decide +kernel
theorem dX7_makes_5 : decode cX7_makes 5 = .ok (.getfield 71, 3) := by decide +kernel
theorem dX7_makes_8 : decode cX7_makes 8 = .ok (.iload_n 1, 1) := by decide +kernel
theorem dX7_makes_9 : decode cX7_makes 9 = .ok (.iastore, 1) := by decide +kernel
theorem dX7_makes_10 : decode cX7_makes 10 = .ok (.aload_n 0, 1) := by decide +kernel
theorem dX7_makes_11 : decode cX7_makes 11 = .ok (.getfield 13, 3) := by decide +kernel
theorem dX7_makes_14 : decode cX7_makes 14 = .ok (.aload_n 0, 1) := by decide +kernel
theorem dX7_makes_15 : decode cX7_makes 15 = .ok (.getfield 71, 3) := by decide +kernel
theorem dX7_makes_18 : decode cX7_makes 18 = .ok (.iload_n 2, 1) := by decide +kernel
theorem dX7_makes_19 : decode cX7_makes 19 = .ok (.iastore, 1) := by decide +kernel
theorem dX7_makes_20 : decode cX7_makes 20 = .ok (.aload_n 0, 1) := by decide +kernel
theorem dX7_makes_21 : decode cX7_makes 21 = .ok (.getfield 22, 3) := by decide +kernel
theorem dX7_makes_24 : decode cX7_makes 24 = .ok (.aload_n 0, 1) := by decide +kernel
theorem dX7_makes_25 : decode cX7_makes 25 = .ok (.getfield 71, 3) := by decide +kernel
theorem dX7_makes_28 : decode cX7_makes 28 = .ok (.iload_n 3, 1) := by decide +kernel
theorem dX7_makes_29 : decode cX7_makes 29 = .ok (.iastore, 1) := by decide +kernel
theorem dX7_makes_30 : decode cX7_makes 30 = .ok (.aload_n 0, 1) := by decide +kernel
theorem dX7_makes_31 : decode cX7_makes 31 = .ok (.getfield 25, 3) := by decide +kernel
theorem dX7_makes_34 : decode cX7_makes 34 = .ok (.aload_n 0, 1) := by decide +kernel
theorem dX7_makes_35 : decode cX7_makes 35 = .ok (.getfield 71, 3) := by decide +kernel
theorem dX7_makes_38 : decode cX7_makes 38 = .ok (.iload 4, 2) := by decide +kernel
theorem dX7_makes_40 : decode cX7_makes 40 = .ok (.iastore, 1) := by decide +kernel
theorem dX7_makes_41 : decode cX7_makes 41 = .ok (.aload_n 0, 1) := by decide +kernel
theorem dX7_makes_42 : decode cX7_makes 42 = .ok (.getfield 16, 3) := by decide +kernel
theorem dX7_makes_45 : decode cX7_makes 45 = .ok (.aload_n 0, 1) := by decide +kernel
theorem dX7_makes_46 : decode cX7_makes 46 = .ok (.getfield 71, 3) := by decide +kernel
theorem dX7_makes_49 : decode cX7_makes 49 = .ok (.aload_n 0, 1) := by decide +kernel
theorem dX7_makes_50 : decode cX7_makes 50 = .ok (.getfield 82, 3) := by decide +kernel
theorem dX7_makes_53 : decode cX7_makes 53 = .ok (.iastore, 1) := by decide +kernel
theorem dX7_makes_54 : decode cX7_makes 54 = .ok (.aload_n 0, 1) := by decide +kernel
theorem dX7_makes_55 : decode cX7_makes 55 = .ok (.getfield 19, 3) := by decide +kernel
theorem dX7_makes_58 : decode cX7_makes 58 = .ok (.aload_n 0, 1) := by decide +kernel
theorem dX7_makes_59 : decode cX7_makes 59 = .ok (.getfield 71, 3) := by decide +kernel
theorem dX7_makes_62 : decode cX7_makes 62 = .ok (.aload_n 0, 1) := by decide +kernel
theorem dX7_makes_63 : decode cX7_makes 63 = .ok (.getfield 82, 3) := by decide +kernel
theorem dX7_makes_66 : decode cX7_makes 66 = .ok (.iload 5, 2) := by decide +kernel
theorem dX7_makes_68 : decode cX7_makes 68 = .ok (.iadd, 1) := by decide +kernel
theorem dX7_makes_69 : decode cX7_makes 69 = .ok (.iconst 1, 1) := by decide +kernel
theorem dX7_makes_70 : decode cX7_makes 70 = .ok (.isub, 1) := by decide +kernel
theorem dX7_makes_71 : decode cX7_makes 71 = .ok (.iastore, 1) := by decide +kernel
theorem dX7_makes_72 : decode cX7_makes 72 = .ok (.aload_n 0, 1) := by decide +kernel
theorem dX7_makes_73 : decode cX7_makes 73 = .ok (.getfield 37, 3) := by decide +kernel
theorem dX7_makes_76 : decode cX7_makes 76 = .ok (.aload_n 0, 1) := by decide +kernel
theorem dX7_makes_77 : decode cX7_makes 77 = .ok (.getfield 71, 3) := by decide +kernel
theorem dX7_makes_80 : decode cX7_makes 80 = .ok (.iconst (-1), 1) := by decide +kernel
theorem dX7_makes_81 : decode cX7_makes 81 = .ok (.iastore, 1) := by decide +kernel
theorem dX7_makes_82 : decode cX7_makes 82 = .ok (.aload_n 0, 1) := by decide +kernel
theorem dX7_makes_83 : decode cX7_makes 83 = .ok (.dup, 1) := by decide +kernel
theorem dX7_makes_84 : decode cX7_makes 84 = .ok (.getfield 71, 3) := by decide +kernel
theorem dX7_makes_87 : decode cX7_makes 87 = .ok (.iconst 1, 1) := by decide +kernel
theorem dX7_makes_88 : decode cX7_makes 88 = .ok (.iadd, 1) := by decide +kernel
theorem dX7_makes_89 : decode cX7_makes 89 = .ok (.putfield 71, 3) := by decide +kernel
theorem dX7_makes_92 : decode cX7_makes 92 = .ok (.aload_n 0, 1) := by decide +kernel
theorem dX7_makes_93 : decode cX7_makes 93 = .ok (.getfield 71, 3) := by decide +kernel
theorem dX7_makes_96 : decode cX7_makes 96 = .ok (.iconst 1, 1) := by decide +kernel
theorem dX7_makes_97 : decode cX7_makes 97 = .ok (.isub, 1) := by decide +kernel
theorem dX7_makes_98 : decode cX7_makes 98 = .ok (.ireturn, 1) := by decide +kernel
theorem dX7_authority_0 : decode cX7_authority 0 = .ok (.aload_n 0, 1) := by decide +kernel
theorem dX7_authority_1 : decode cX7_authority 1 = .ok (.getfield 40, 3) := by decide +kernel
theorem dX7_authority_4 : decode cX7_authority 4 = .ok (.iload_n 1, 1) := by decide +kernel
theorem dX7_authority_5 : decode cX7_authority 5 = .ok (.iconst 1, 1) := by decide +kernel
theorem dX7_authority_6 : decode cX7_authority 6 = .ok (.bastore, 1) := by decide +kernel
theorem dX7_authority_7 : decode cX7_authority 7 = .ok (.aload_n 0, 1) := by decide +kernel
theorem dX7_authority_8 : decode cX7_authority 8 = .ok (.getfield 28, 3) := by decide +kernel
theorem dX7_authority_11 : decode cX7_authority 11 = .ok (.iload_n 1, 1) := by decide +kernel
theorem dX7_authority_12 : decode cX7_authority 12 = .ok (.iload_n 2, 1) := by decide +kernel
theorem dX7_authority_13 : decode cX7_authority 13 = .ok (.iastore, 1) := by decide +kernel
theorem dX7_authority_14 : decode cX7_authority 14 = .ok (.iload_n 1, 1) := by decide +kernel
theorem dX7_authority_15 : decode cX7_authority 15 = .ok (.ireturn, 1) := by decide +kernel
theorem dX7_makeRoot_0 : decode cX7_makeRoot 0 = .ok (.iload_n 1, 1) := by decide +kernel
theorem dX7_makeRoot_1 : decode cX7_makeRoot 1 = .ok (.invokestatic 85, 3) := by decide +kernel
theorem dX7_makeRoot_4 : decode cX7_makeRoot 4 = .ok (.ifCond .eq 27, 3) := by decide +kernel
theorem dX7_makeRoot_7 : decode cX7_makeRoot 7 = .ok (.iload_n 2, 1) := by decide +kernel
theorem dX7_makeRoot_8 : decode cX7_makeRoot 8 = .ok (.iconst 1, 1) := by decide +kernel
theorem dX7_makeRoot_9 : decode cX7_makeRoot 9 = .ok (.sipush 999, 3) := by decide +kernel
theorem dX7_makeRoot_12 : decode cX7_makeRoot 12 = .ok (.invokestatic 67, 3) := by decide +kernel
theorem dX7_makeRoot_15 : decode cX7_makeRoot 15 = .ok (.ifCond .eq 16, 3) := by decide +kernel
theorem dX7_makeRoot_18 : decode cX7_makeRoot 18 = .ok (.iload_n 3, 1) := by decide +kernel
theorem dX7_makeRoot_19 : decode cX7_makeRoot 19 = .ok (.iconst 0, 1) := by decide +kernel
theorem dX7_makeRoot_20 : decode cX7_makeRoot 20 = .ok (.iconst 5, 1) := by decide +kernel
theorem dX7_makeRoot_21 : decode cX7_makeRoot 21 = .ok (.invokestatic 67, 3) := by decide +kernel
theorem dX7_makeRoot_24 : decode cX7_makeRoot 24 = .ok (.ifCond .eq 7, 3) := by decide +kernel
theorem dX7_makeRoot_27 : decode cX7_makeRoot 27 = .ok (.iconst 1, 1) := by decide +kernel
theorem dX7_makeRoot_28 : decode cX7_makeRoot 28 = .ok (.goto 4, 3) := by decide +kernel
theorem dX7_makeRoot_31 : decode cX7_makeRoot 31 = .ok (.iconst 0, 1) := by decide +kernel
theorem dX7_makeRoot_32 : decode cX7_makeRoot 32 = .ok (.istore 4, 2) := by decide +kernel
theorem dX7_makeRoot_34 : decode cX7_makeRoot 34 = .ok (.aload_n 0, 1) := by decide +kernel
theorem dX7_makeRoot_35 : decode cX7_makeRoot 35 = .ok (.iload 4, 2) := by decide +kernel
theorem dX7_makeRoot_37 : decode cX7_makeRoot 37 = .ok (.ifCond .ne 7, 3) := by decide +kernel
theorem dX7_makeRoot_40 : decode cX7_makeRoot 40 = .ok (.iconst 1, 1) := by decide +kernel
theorem dX7_makeRoot_41 : decode cX7_makeRoot 41 = .ok (.goto 4, 3) := by decide +kernel
theorem dX7_makeRoot_44 : decode cX7_makeRoot 44 = .ok (.iconst 0, 1) := by decide +kernel
theorem dX7_makeRoot_45 : decode cX7_makeRoot 45 = .ok (.iconst 1, 1) := by decide +kernel
theorem dX7_makeRoot_46 : decode cX7_makeRoot 46 = .ok (.invokevirtual 78, 3) := by decide +kernel
theorem dX7_makeRoot_49 : decode cX7_makeRoot 49 = .ok (.ifCond .ne 25, 3) := by decide +kernel
theorem dX7_makeRoot_52 : decode cX7_makeRoot 52 = .ok (.aload_n 0, 1) := by decide +kernel
theorem dX7_makeRoot_53 : decode cX7_makeRoot 53 = .ok (.aload_n 0, 1) := by decide +kernel
theorem dX7_makeRoot_54 : decode cX7_makeRoot 54 = .ok (.getfield 71, 3) := by decide +kernel
theorem dX7_makeRoot_57 : decode cX7_makeRoot 57 = .ok (.bipush 40, 2) := by decide +kernel
theorem dX7_makeRoot_59 : decode cX7_makeRoot 59 = .ok (.if_icmp .ne 7, 3) := by decide +kernel
theorem dX7_makeRoot_62 : decode cX7_makeRoot 62 = .ok (.iconst 1, 1) := by decide +kernel
theorem dX7_makeRoot_63 : decode cX7_makeRoot 63 = .ok (.goto 4, 3) := by decide +kernel
theorem dX7_makeRoot_66 : decode cX7_makeRoot 66 = .ok (.iconst 0, 1) := by decide +kernel
theorem dX7_makeRoot_67 : decode cX7_makeRoot 67 = .ok (.iconst 2, 1) := by decide +kernel
theorem dX7_makeRoot_68 : decode cX7_makeRoot 68 = .ok (.invokevirtual 78, 3) := by decide +kernel
theorem dX7_makeRoot_71 : decode cX7_makeRoot 71 = .ok (.ifCond .eq 5, 3) := by decide +kernel
theorem dX7_makeRoot_74 : decode cX7_makeRoot 74 = .ok (.iconst 0, 1) := by decide +kernel
theorem dX7_makeRoot_75 : decode cX7_makeRoot 75 = .ok (.ireturn, 1) := by decide +kernel
theorem dX7_makeRoot_76 : decode cX7_makeRoot 76 = .ok (.aload_n 0, 1) := by decide +kernel
theorem dX7_makeRoot_77 : decode cX7_makeRoot 77 = .ok (.dup, 1) := by decide +kernel
theorem dX7_makeRoot_78 : decode cX7_makeRoot 78 = .ok (.getfield 88, 3) := by decide +kernel
theorem dX7_makeRoot_81 : decode cX7_makeRoot 81 = .ok (.iconst 1, 1) := by decide +kernel
theorem dX7_makeRoot_82 : decode cX7_makeRoot 82 = .ok (.iadd, 1) := by decide +kernel
theorem dX7_makeRoot_83 : decode cX7_makeRoot 83 = .ok (.putfield 88, 3) := by decide +kernel
theorem dX7_makeRoot_86 : decode cX7_makeRoot 86 = .ok (.aload_n 0, 1) := by decide +kernel
theorem dX7_makeRoot_87 : decode cX7_makeRoot 87 = .ok (.aload_n 0, 1) := by decide +kernel
theorem dX7_makeRoot_88 : decode cX7_makeRoot 88 = .ok (.iload_n 1, 1) := by decide +kernel
theorem dX7_makeRoot_89 : decode cX7_makeRoot 89 = .ok (.aload_n 0, 1) := by decide +kernel
theorem dX7_makeRoot_90 : decode cX7_makeRoot 90 = .ok (.getfield 88, 3) := by decide +kernel
theorem dX7_makeRoot_93 : decode cX7_makeRoot 93 = .ok (.iload_n 1, 1) := by decide +kernel
theorem dX7_makeRoot_94 : decode cX7_makeRoot 94 = .ok (.aload_n 0, 1) := by decide +kernel
theorem dX7_makeRoot_95 : decode cX7_makeRoot 95 = .ok (.getfield 88, 3) := by decide +kernel
theorem dX7_makeRoot_98 : decode cX7_makeRoot 98 = .ok (.iload_n 2, 1) := by decide +kernel
theorem dX7_makeRoot_99 : decode cX7_makeRoot 99 = .ok (.invokevirtual 91, 3) := by decide +kernel
theorem dX7_makeRoot_102 : decode cX7_makeRoot 102 = .ok (.iload_n 3, 1) := by decide +kernel
theorem dX7_makeRoot_103 : decode cX7_makeRoot 103 = .ok (.invokevirtual 95, 3) := by decide +kernel
theorem dX7_makeRoot_106 : decode cX7_makeRoot 106 = .ok (.istore 5, 2) := by decide +kernel
theorem dX7_makeRoot_108 : decode cX7_makeRoot 108 = .ok (.aload_n 0, 1) := by decide +kernel
theorem dX7_makeRoot_109 : decode cX7_makeRoot 109 = .ok (.getfield 44, 3) := by decide +kernel
theorem dX7_makeRoot_112 : decode cX7_makeRoot 112 = .ok (.iload 5, 2) := by decide +kernel
theorem dX7_makeRoot_114 : decode cX7_makeRoot 114 = .ok (.iconst 1, 1) := by decide +kernel
theorem dX7_makeRoot_115 : decode cX7_makeRoot 115 = .ok (.bastore, 1) := by decide +kernel
theorem dX7_makeRoot_116 : decode cX7_makeRoot 116 = .ok (.iload 5, 2) := by decide +kernel
theorem dX7_makeRoot_118 : decode cX7_makeRoot 118 = .ok (.ireturn, 1) := by decide +kernel
theorem dX7_cannotIssue_0 : decode cX7_cannotIssue 0 = .ok (.aload_n 0, 1) := by decide +kernel
theorem dX7_cannotIssue_1 : decode cX7_cannotIssue 1 = .ok (.iload_n 1, 1) := by decide +kernel
theorem dX7_cannotIssue_2 : decode cX7_cannotIssue 2 = .ok (.invokevirtual 99, 3) := by decide +kernel
theorem dX7_cannotIssue_5 : decode cX7_cannotIssue 5 = .ok (.ifCond .ne 51, 3) := by decide +kernel
theorem dX7_cannotIssue_8 : decode cX7_cannotIssue 8 = .ok (.aload_n 0, 1) := by decide +kernel
theorem dX7_cannotIssue_9 : decode cX7_cannotIssue 9 = .ok (.iload_n 2, 1) := by decide +kernel
theorem dX7_cannotIssue_10 : decode cX7_cannotIssue 10 = .ok (.ifCond .ne 7, 3) := by decide +kernel
theorem dX7_cannotIssue_13 : decode cX7_cannotIssue 13 = .ok (.iconst 1, 1) := by decide +kernel
theorem dX7_cannotIssue_14 : decode cX7_cannotIssue 14 = .ok (.goto 4, 3) := by decide +kernel
theorem dX7_cannotIssue_17 : decode cX7_cannotIssue 17 = .ok (.iconst 0, 1) := by decide +kernel
theorem dX7_cannotIssue_18 : decode cX7_cannotIssue 18 = .ok (.iconst 2, 1) := by decide +kernel
theorem dX7_cannotIssue_19 : decode cX7_cannotIssue 19 = .ok (.invokevirtual 78, 3) := by decide +kernel
theorem dX7_cannotIssue_22 : decode cX7_cannotIssue 22 = .ok (.ifCond .ne 34, 3) := by decide +kernel
theorem dX7_cannotIssue_25 : decode cX7_cannotIssue 25 = .ok (.aload_n 0, 1) := by decide +kernel
theorem dX7_cannotIssue_26 : decode cX7_cannotIssue 26 = .ok (.aload_n 0, 1) := by decide +kernel
theorem dX7_cannotIssue_27 : decode cX7_cannotIssue 27 = .ok (.getfield 40, 3) := by decide +kernel
theorem dX7_cannotIssue_30 : decode cX7_cannotIssue 30 = .ok (.iload_n 1, 1) := by decide +kernel
theorem dX7_cannotIssue_31 : decode cX7_cannotIssue 31 = .ok (.baload, 1) := by decide +kernel
theorem dX7_cannotIssue_32 : decode cX7_cannotIssue 32 = .ok (.ifCond .eq 12, 3) := by decide +kernel
theorem dX7_cannotIssue_35 : decode cX7_cannotIssue 35 = .ok (.aload_n 0, 1) := by decide +kernel
theorem dX7_cannotIssue_36 : decode cX7_cannotIssue 36 = .ok (.getfield 71, 3) := by decide +kernel
theorem dX7_cannotIssue_39 : decode cX7_cannotIssue 39 = .ok (.bipush 40, 2) := by decide +kernel
theorem dX7_cannotIssue_41 : decode cX7_cannotIssue 41 = .ok (.if_icmp .ne 7, 3) := by decide +kernel
theorem dX7_cannotIssue_44 : decode cX7_cannotIssue 44 = .ok (.iconst 1, 1) := by decide +kernel
theorem dX7_cannotIssue_45 : decode cX7_cannotIssue 45 = .ok (.goto 4, 3) := by decide +kernel
theorem dX7_cannotIssue_48 : decode cX7_cannotIssue 48 = .ok (.iconst 0, 1) := by decide +kernel
theorem dX7_cannotIssue_49 : decode cX7_cannotIssue 49 = .ok (.iconst 3, 1) := by decide +kernel
theorem dX7_cannotIssue_50 : decode cX7_cannotIssue 50 = .ok (.invokevirtual 78, 3) := by decide +kernel
theorem dX7_cannotIssue_53 : decode cX7_cannotIssue 53 = .ok (.ifCond .eq 7, 3) := by decide +kernel
theorem dX7_cannotIssue_56 : decode cX7_cannotIssue 56 = .ok (.iconst 1, 1) := by decide +kernel
theorem dX7_cannotIssue_57 : decode cX7_cannotIssue 57 = .ok (.goto 4, 3) := by decide +kernel
theorem dX7_cannotIssue_60 : decode cX7_cannotIssue 60 = .ok (.iconst 0, 1) := by decide +kernel
theorem dX7_cannotIssue_61 : decode cX7_cannotIssue 61 = .ok (.ireturn, 1) := by decide +kernel
theorem dX7_issue_0 : decode cX7_issue 0 = .ok (.aload_n 0, 1) := by decide +kernel
theorem dX7_issue_1 : decode cX7_issue 1 = .ok (.iload_n 1, 1) := by decide +kernel
theorem dX7_issue_2 : decode cX7_issue 2 = .ok (.iload_n 2, 1) := by decide +kernel
theorem dX7_issue_3 : decode cX7_issue 3 = .ok (.invokestatic 85, 3) := by decide +kernel
theorem dX7_issue_6 : decode cX7_issue 6 = .ok (.ifCond .eq 18, 3) := by decide +kernel
theorem dX7_issue_9 : decode cX7_issue 9 = .ok (.iload_n 3, 1) := by decide +kernel
theorem dX7_issue_10 : decode cX7_issue 10 = .ok (.iconst 1, 1) := by decide +kernel
theorem dX7_issue_11 : decode cX7_issue 11 = .ok (.sipush 999, 3) := by decide +kernel
theorem dX7_issue_14 : decode cX7_issue 14 = .ok (.invokestatic 67, 3) := by decide +kernel
theorem dX7_issue_17 : decode cX7_issue 17 = .ok (.ifCond .eq 7, 3) := by decide +kernel
theorem dX7_issue_20 : decode cX7_issue 20 = .ok (.iconst 1, 1) := by decide +kernel
theorem dX7_issue_21 : decode cX7_issue 21 = .ok (.goto 4, 3) := by decide +kernel
theorem dX7_issue_24 : decode cX7_issue 24 = .ok (.iconst 0, 1) := by decide +kernel
theorem dX7_issue_25 : decode cX7_issue 25 = .ok (.invokevirtual 102, 3) := by decide +kernel
theorem dX7_issue_28 : decode cX7_issue 28 = .ok (.ifCond .eq 5, 3) := by decide +kernel
theorem dX7_issue_31 : decode cX7_issue 31 = .ok (.iconst 0, 1) := by decide +kernel
theorem dX7_issue_32 : decode cX7_issue 32 = .ok (.ireturn, 1) := by decide +kernel
theorem dX7_issue_33 : decode cX7_issue 33 = .ok (.aload_n 0, 1) := by decide +kernel
theorem dX7_issue_34 : decode cX7_issue 34 = .ok (.dup, 1) := by decide +kernel
theorem dX7_issue_35 : decode cX7_issue 35 = .ok (.getfield 88, 3) := by decide +kernel
theorem dX7_issue_38 : decode cX7_issue 38 = .ok (.iconst 1, 1) := by decide +kernel
theorem dX7_issue_39 : decode cX7_issue 39 = .ok (.iadd, 1) := by decide +kernel
theorem dX7_issue_40 : decode cX7_issue 40 = .ok (.putfield 88, 3) := by decide +kernel
theorem dX7_issue_43 : decode cX7_issue 43 = .ok (.aload_n 0, 1) := by decide +kernel
theorem dX7_issue_44 : decode cX7_issue 44 = .ok (.iload_n 2, 1) := by decide +kernel
theorem dX7_issue_45 : decode cX7_issue 45 = .ok (.aload_n 0, 1) := by decide +kernel
theorem dX7_issue_46 : decode cX7_issue 46 = .ok (.getfield 88, 3) := by decide +kernel
theorem dX7_issue_49 : decode cX7_issue 49 = .ok (.aload_n 0, 1) := by decide +kernel
theorem dX7_issue_50 : decode cX7_issue 50 = .ok (.getfield 9, 3) := by decide +kernel
theorem dX7_issue_53 : decode cX7_issue 53 = .ok (.iload_n 1, 1) := by decide +kernel
theorem dX7_issue_54 : decode cX7_issue 54 = .ok (.iaload, 1) := by decide +kernel
theorem dX7_issue_55 : decode cX7_issue 55 = .ok (.aload_n 0, 1) := by decide +kernel
theorem dX7_issue_56 : decode cX7_issue 56 = .ok (.getfield 13, 3) := by decide +kernel
theorem dX7_issue_59 : decode cX7_issue 59 = .ok (.iload_n 1, 1) := by decide +kernel
theorem dX7_issue_60 : decode cX7_issue 60 = .ok (.iaload, 1) := by decide +kernel
theorem dX7_issue_61 : decode cX7_issue 61 = .ok (.iload_n 3, 1) := by decide +kernel
theorem dX7_issue_62 : decode cX7_issue 62 = .ok (.invokevirtual 91, 3) := by decide +kernel
theorem dX7_issue_65 : decode cX7_issue 65 = .ok (.ireturn, 1) := by decide +kernel
theorem dX7_issueAuthority_0 : decode cX7_issueAuthority 0 = .ok (.aload_n 0, 1) := by decide +kernel
theorem dX7_issueAuthority_1 : decode cX7_issueAuthority 1 = .ok (.iload_n 1, 1) := by decide +kernel
theorem dX7_issueAuthority_2 : decode cX7_issueAuthority 2 = .ok (.iload_n 2, 1) := by decide +kernel
theorem dX7_issueAuthority_3 : decode cX7_issueAuthority 3 = .ok (.invokestatic 85, 3) := by decide +kernel
theorem dX7_issueAuthority_6 : decode cX7_issueAuthority 6 = .ok (.ifCond .eq 28, 3) := by decide +kernel
theorem dX7_issueAuthority_9 : decode cX7_issueAuthority 9 = .ok (.iload_n 3, 1) := by decide +kernel
theorem dX7_issueAuthority_10 : decode cX7_issueAuthority 10 = .ok (.iconst 1, 1) := by decide +kernel
theorem dX7_issueAuthority_11 : decode cX7_issueAuthority 11 = .ok (.sipush 999, 3) := by decide +kernel
theorem dX7_issueAuthority_14 : decode cX7_issueAuthority 14 = .ok (.invokestatic 67, 3) := by decide +kernel
theorem dX7_issueAuthority_17 : decode cX7_issueAuthority 17 = .ok (.ifCond .eq 17, 3) := by decide +kernel
theorem dX7_issueAuthority_20 : decode cX7_issueAuthority 20 = .ok (.iload 4, 2) := by decide +kernel
theorem dX7_issueAuthority_22 : decode cX7_issueAuthority 22 = .ok (.iconst 0, 1) := by decide +kernel
theorem dX7_issueAuthority_23 : decode cX7_issueAuthority 23 = .ok (.iconst 5, 1) := by decide +kernel
theorem dX7_issueAuthority_24 : decode cX7_issueAuthority 24 = .ok (.invokestatic 67, 3) := by decide +kernel
theorem dX7_issueAuthority_27 : decode cX7_issueAuthority 27 = .ok (.ifCond .eq 7, 3) := by decide +kernel
theorem dX7_issueAuthority_30 : decode cX7_issueAuthority 30 = .ok (.iconst 1, 1) := by decide +kernel
theorem dX7_issueAuthority_31 : decode cX7_issueAuthority 31 = .ok (.goto 4, 3) := by decide +kernel
theorem dX7_issueAuthority_34 : decode cX7_issueAuthority 34 = .ok (.iconst 0, 1) := by decide +kernel
theorem dX7_issueAuthority_35 : decode cX7_issueAuthority 35 = .ok (.invokevirtual 102, 3) := by decide +kernel
theorem dX7_issueAuthority_38 : decode cX7_issueAuthority 38 = .ok (.ifCond .eq 5, 3) := by decide +kernel
theorem dX7_issueAuthority_41 : decode cX7_issueAuthority 41 = .ok (.iconst 0, 1) := by decide +kernel
theorem dX7_issueAuthority_42 : decode cX7_issueAuthority 42 = .ok (.ireturn, 1) := by decide +kernel
theorem dX7_issueAuthority_43 : decode cX7_issueAuthority 43 = .ok (.aload_n 0, 1) := by decide +kernel
theorem dX7_issueAuthority_44 : decode cX7_issueAuthority 44 = .ok (.dup, 1) := by decide +kernel
theorem dX7_issueAuthority_45 : decode cX7_issueAuthority 45 = .ok (.getfield 88, 3) := by decide +kernel
theorem dX7_issueAuthority_48 : decode cX7_issueAuthority 48 = .ok (.iconst 1, 1) := by decide +kernel
theorem dX7_issueAuthority_49 : decode cX7_issueAuthority 49 = .ok (.iadd, 1) := by decide +kernel
theorem dX7_issueAuthority_50 : decode cX7_issueAuthority 50 = .ok (.putfield 88, 3) := by decide +kernel
theorem dX7_issueAuthority_53 : decode cX7_issueAuthority 53 = .ok (.aload_n 0, 1) := by decide +kernel
theorem dX7_issueAuthority_54 : decode cX7_issueAuthority 54 = .ok (.aload_n 0, 1) := by decide +kernel
theorem dX7_issueAuthority_55 : decode cX7_issueAuthority 55 = .ok (.iload_n 2, 1) := by decide +kernel
theorem dX7_issueAuthority_56 : decode cX7_issueAuthority 56 = .ok (.aload_n 0, 1) := by decide +kernel
theorem dX7_issueAuthority_57 : decode cX7_issueAuthority 57 = .ok (.getfield 88, 3) := by decide +kernel
theorem dX7_issueAuthority_60 : decode cX7_issueAuthority 60 = .ok (.aload_n 0, 1) := by decide +kernel
theorem dX7_issueAuthority_61 : decode cX7_issueAuthority 61 = .ok (.getfield 9, 3) := by decide +kernel
theorem dX7_issueAuthority_64 : decode cX7_issueAuthority 64 = .ok (.iload_n 1, 1) := by decide +kernel
theorem dX7_issueAuthority_65 : decode cX7_issueAuthority 65 = .ok (.iaload, 1) := by decide +kernel
theorem dX7_issueAuthority_66 : decode cX7_issueAuthority 66 = .ok (.aload_n 0, 1) := by decide +kernel
theorem dX7_issueAuthority_67 : decode cX7_issueAuthority 67 = .ok (.getfield 13, 3) := by decide +kernel
theorem dX7_issueAuthority_70 : decode cX7_issueAuthority 70 = .ok (.iload_n 1, 1) := by decide +kernel
theorem dX7_issueAuthority_71 : decode cX7_issueAuthority 71 = .ok (.iaload, 1) := by decide +kernel
theorem dX7_issueAuthority_72 : decode cX7_issueAuthority 72 = .ok (.iload_n 3, 1) := by decide +kernel
theorem dX7_issueAuthority_73 : decode cX7_issueAuthority 73 = .ok (.invokevirtual 91, 3) := by decide +kernel
theorem dX7_issueAuthority_76 : decode cX7_issueAuthority 76 = .ok (.iload 4, 2) := by decide +kernel
theorem dX7_issueAuthority_78 : decode cX7_issueAuthority 78 = .ok (.invokevirtual 95, 3) := by decide +kernel
theorem dX7_issueAuthority_81 : decode cX7_issueAuthority 81 = .ok (.ireturn, 1) := by decide +kernel
theorem dX7_withKey_0 : decode cX7_withKey 0 = .ok (.iconst 0, 1) := by decide +kernel
theorem dX7_withKey_1 : decode cX7_withKey 1 = .ok (.istore_n 2, 1) := by decide +kernel
theorem dX7_withKey_2 : decode cX7_withKey 2 = .ok (.iconst 0, 1) := by decide +kernel
theorem dX7_withKey_3 : decode cX7_withKey 3 = .ok (.istore_n 3, 1) := by decide +kernel
theorem dX7_withKey_4 : decode cX7_withKey 4 = .ok (.iload_n 3, 1) := by decide +kernel
theorem dX7_withKey_5 : decode cX7_withKey 5 = .ok (.aload_n 0, 1) := by decide +kernel
theorem dX7_withKey_6 : decode cX7_withKey 6 = .ok (.getfield 71, 3) := by decide +kernel
theorem dX7_withKey_9 : decode cX7_withKey 9 = .ok (.if_icmp .ge 27, 3) := by decide +kernel
theorem dX7_withKey_12 : decode cX7_withKey 12 = .ok (.iload_n 2, 1) := by decide +kernel
theorem dX7_withKey_13 : decode cX7_withKey 13 = .ok (.aload_n 0, 1) := by decide +kernel
theorem dX7_withKey_14 : decode cX7_withKey 14 = .ok (.getfield 13, 3) := by decide +kernel
theorem dX7_withKey_17 : decode cX7_withKey 17 = .ok (.iload_n 3, 1) := by decide +kernel
theorem dX7_withKey_18 : decode cX7_withKey 18 = .ok (.iaload, 1) := by decide +kernel
theorem dX7_withKey_19 : decode cX7_withKey 19 = .ok (.iload_n 1, 1) := by decide +kernel
theorem dX7_withKey_20 : decode cX7_withKey 20 = .ok (.if_icmp .ne 7, 3) := by decide +kernel
theorem dX7_withKey_23 : decode cX7_withKey 23 = .ok (.iconst 1, 1) := by decide +kernel
theorem dX7_withKey_24 : decode cX7_withKey 24 = .ok (.goto 4, 3) := by decide +kernel
theorem dX7_withKey_27 : decode cX7_withKey 27 = .ok (.iconst 0, 1) := by decide +kernel
theorem dX7_withKey_28 : decode cX7_withKey 28 = .ok (.iadd, 1) := by decide +kernel
theorem dX7_withKey_29 : decode cX7_withKey 29 = .ok (.istore_n 2, 1) := by decide +kernel
theorem dX7_withKey_30 : decode cX7_withKey 30 = .ok (.iinc 3 1, 3) := by decide +kernel
theorem dX7_withKey_33 : decode cX7_withKey 33 = .ok (.goto (-29), 3) := by decide +kernel
theorem dX7_withKey_36 : decode cX7_withKey 36 = .ok (.iload_n 2, 1) := by decide +kernel
theorem dX7_withKey_37 : decode cX7_withKey 37 = .ok (.ireturn, 1) := by decide +kernel
theorem dX7_cross_0 : decode cX7_cross 0 = .ok (.aload_n 0, 1) := by decide +kernel
theorem dX7_cross_1 : decode cX7_cross 1 = .ok (.aload_n 0, 1) := by decide +kernel
theorem dX7_cross_2 : decode cX7_cross 2 = .ok (.iload_n 1, 1) := by decide +kernel
theorem dX7_cross_3 : decode cX7_cross 3 = .ok (.invokevirtual 74, 3) := by decide +kernel
theorem dX7_cross_6 : decode cX7_cross 6 = .ok (.ifCond .eq 11, 3) := by decide +kernel
theorem dX7_cross_9 : decode cX7_cross 9 = .ok (.aload_n 0, 1) := by decide +kernel
theorem dX7_cross_10 : decode cX7_cross 10 = .ok (.iload_n 2, 1) := by decide +kernel
theorem dX7_cross_11 : decode cX7_cross 11 = .ok (.invokevirtual 74, 3) := by decide +kernel
theorem dX7_cross_14 : decode cX7_cross 14 = .ok (.ifCond .ne 7, 3) := by decide +kernel
theorem dX7_cross_17 : decode cX7_cross 17 = .ok (.iconst 1, 1) := by decide +kernel
theorem dX7_cross_18 : decode cX7_cross 18 = .ok (.goto 4, 3) := by decide +kernel
theorem dX7_cross_21 : decode cX7_cross 21 = .ok (.iconst 0, 1) := by decide +kernel
theorem dX7_cross_22 : decode cX7_cross 22 = .ok (.iconst 1, 1) := by decide +kernel
theorem dX7_cross_23 : decode cX7_cross 23 = .ok (.invokevirtual 78, 3) := by decide +kernel
theorem dX7_cross_26 : decode cX7_cross 26 = .ok (.ifCond .ne 37, 3) := by decide +kernel
theorem dX7_cross_29 : decode cX7_cross 29 = .ok (.aload_n 0, 1) := by decide +kernel
theorem dX7_cross_30 : decode cX7_cross 30 = .ok (.iload_n 3, 1) := by decide +kernel
theorem dX7_cross_31 : decode cX7_cross 31 = .ok (.iconst 1, 1) := by decide +kernel
theorem dX7_cross_32 : decode cX7_cross 32 = .ok (.sipush 999, 3) := by decide +kernel
theorem dX7_cross_35 : decode cX7_cross 35 = .ok (.invokestatic 67, 3) := by decide +kernel
theorem dX7_cross_38 : decode cX7_cross 38 = .ok (.ifCond .eq 13, 3) := by decide +kernel
theorem dX7_cross_41 : decode cX7_cross 41 = .ok (.iload 4, 2) := by decide +kernel
theorem dX7_cross_43 : decode cX7_cross 43 = .ok (.iconst 0, 1) := by decide +kernel
theorem dX7_cross_44 : decode cX7_cross 44 = .ok (.iconst 5, 1) := by decide +kernel
theorem dX7_cross_45 : decode cX7_cross 45 = .ok (.invokestatic 67, 3) := by decide +kernel
theorem dX7_cross_48 : decode cX7_cross 48 = .ok (.ifCond .ne 7, 3) := by decide +kernel
theorem dX7_cross_51 : decode cX7_cross 51 = .ok (.iconst 1, 1) := by decide +kernel
theorem dX7_cross_52 : decode cX7_cross 52 = .ok (.goto 4, 3) := by decide +kernel
theorem dX7_cross_55 : decode cX7_cross 55 = .ok (.iconst 0, 1) := by decide +kernel
theorem dX7_cross_56 : decode cX7_cross 56 = .ok (.iconst 2, 1) := by decide +kernel
theorem dX7_cross_57 : decode cX7_cross 57 = .ok (.invokevirtual 78, 3) := by decide +kernel
theorem dX7_cross_60 : decode cX7_cross 60 = .ok (.ifCond .eq 5, 3) := by decide +kernel
theorem dX7_cross_63 : decode cX7_cross 63 = .ok (.iconst 0, 1) := by decide +kernel
theorem dX7_cross_64 : decode cX7_cross 64 = .ok (.ireturn, 1) := by decide +kernel
theorem dX7_cross_65 : decode cX7_cross 65 = .ok (.aload_n 0, 1) := by decide +kernel
theorem dX7_cross_66 : decode cX7_cross 66 = .ok (.aload_n 0, 1) := by decide +kernel
theorem dX7_cross_67 : decode cX7_cross 67 = .ok (.getfield 40, 3) := by decide +kernel
theorem dX7_cross_70 : decode cX7_cross 70 = .ok (.iload_n 1, 1) := by decide +kernel
theorem dX7_cross_71 : decode cX7_cross 71 = .ok (.baload, 1) := by decide +kernel
theorem dX7_cross_72 : decode cX7_cross 72 = .ok (.ifCond .eq 50, 3) := by decide +kernel
theorem dX7_cross_75 : decode cX7_cross 75 = .ok (.aload_n 0, 1) := by decide +kernel
theorem dX7_cross_76 : decode cX7_cross 76 = .ok (.getfield 40, 3) := by decide +kernel
theorem dX7_cross_79 : decode cX7_cross 79 = .ok (.iload_n 2, 1) := by decide +kernel
theorem dX7_cross_80 : decode cX7_cross 80 = .ok (.baload, 1) := by decide +kernel
theorem dX7_cross_81 : decode cX7_cross 81 = .ok (.ifCond .eq 41, 3) := by decide +kernel
theorem dX7_cross_84 : decode cX7_cross 84 = .ok (.aload_n 0, 1) := by decide +kernel
theorem dX7_cross_85 : decode cX7_cross 85 = .ok (.getfield 13, 3) := by decide +kernel
theorem dX7_cross_88 : decode cX7_cross 88 = .ok (.iload_n 1, 1) := by decide +kernel
theorem dX7_cross_89 : decode cX7_cross 89 = .ok (.iaload, 1) := by decide +kernel
theorem dX7_cross_90 : decode cX7_cross 90 = .ok (.aload_n 0, 1) := by decide +kernel
theorem dX7_cross_91 : decode cX7_cross 91 = .ok (.getfield 13, 3) := by decide +kernel
theorem dX7_cross_94 : decode cX7_cross 94 = .ok (.iload_n 2, 1) := by decide +kernel
theorem dX7_cross_95 : decode cX7_cross 95 = .ok (.iaload, 1) := by decide +kernel
theorem dX7_cross_96 : decode cX7_cross 96 = .ok (.if_icmp .eq 26, 3) := by decide +kernel
theorem dX7_cross_99 : decode cX7_cross 99 = .ok (.aload_n 0, 1) := by decide +kernel
theorem dX7_cross_100 : decode cX7_cross 100 = .ok (.aload_n 0, 1) := by decide +kernel
theorem dX7_cross_101 : decode cX7_cross 101 = .ok (.getfield 13, 3) := by decide +kernel
theorem dX7_cross_104 : decode cX7_cross 104 = .ok (.iload_n 2, 1) := by decide +kernel
theorem dX7_cross_105 : decode cX7_cross 105 = .ok (.iaload, 1) := by decide +kernel
theorem dX7_cross_106 : decode cX7_cross 106 = .ok (.invokevirtual 106, 3) := by decide +kernel
theorem dX7_cross_109 : decode cX7_cross 109 = .ok (.iconst 2, 1) := by decide +kernel
theorem dX7_cross_110 : decode cX7_cross 110 = .ok (.if_icmp .gt 12, 3) := by decide +kernel
theorem dX7_cross_113 : decode cX7_cross 113 = .ok (.aload_n 0, 1) := by decide +kernel
theorem dX7_cross_114 : decode cX7_cross 114 = .ok (.getfield 71, 3) := by decide +kernel
theorem dX7_cross_117 : decode cX7_cross 117 = .ok (.bipush 40, 2) := by decide +kernel
theorem dX7_cross_119 : decode cX7_cross 119 = .ok (.if_icmp .ne 7, 3) := by decide +kernel
theorem dX7_cross_122 : decode cX7_cross 122 = .ok (.iconst 1, 1) := by decide +kernel
theorem dX7_cross_123 : decode cX7_cross 123 = .ok (.goto 4, 3) := by decide +kernel
theorem dX7_cross_126 : decode cX7_cross 126 = .ok (.iconst 0, 1) := by decide +kernel
theorem dX7_cross_127 : decode cX7_cross 127 = .ok (.iconst 3, 1) := by decide +kernel
theorem dX7_cross_128 : decode cX7_cross 128 = .ok (.invokevirtual 78, 3) := by decide +kernel
theorem dX7_cross_131 : decode cX7_cross 131 = .ok (.ifCond .eq 5, 3) := by decide +kernel
theorem dX7_cross_134 : decode cX7_cross 134 = .ok (.iconst 0, 1) := by decide +kernel
theorem dX7_cross_135 : decode cX7_cross 135 = .ok (.ireturn, 1) := by decide +kernel
theorem dX7_cross_136 : decode cX7_cross 136 = .ok (.aload_n 0, 1) := by decide +kernel
theorem dX7_cross_137 : decode cX7_cross 137 = .ok (.aload_n 0, 1) := by decide +kernel
theorem dX7_cross_138 : decode cX7_cross 138 = .ok (.aload_n 0, 1) := by decide +kernel
theorem dX7_cross_139 : decode cX7_cross 139 = .ok (.getfield 9, 3) := by decide +kernel
theorem dX7_cross_142 : decode cX7_cross 142 = .ok (.iload_n 2, 1) := by decide +kernel
theorem dX7_cross_143 : decode cX7_cross 143 = .ok (.iaload, 1) := by decide +kernel
theorem dX7_cross_144 : decode cX7_cross 144 = .ok (.aload_n 0, 1) := by decide +kernel
theorem dX7_cross_145 : decode cX7_cross 145 = .ok (.getfield 13, 3) := by decide +kernel
theorem dX7_cross_148 : decode cX7_cross 148 = .ok (.iload_n 2, 1) := by decide +kernel
theorem dX7_cross_149 : decode cX7_cross 149 = .ok (.iaload, 1) := by decide +kernel
theorem dX7_cross_150 : decode cX7_cross 150 = .ok (.aload_n 0, 1) := by decide +kernel
theorem dX7_cross_151 : decode cX7_cross 151 = .ok (.getfield 9, 3) := by decide +kernel
theorem dX7_cross_154 : decode cX7_cross 154 = .ok (.iload_n 1, 1) := by decide +kernel
theorem dX7_cross_155 : decode cX7_cross 155 = .ok (.iaload, 1) := by decide +kernel
theorem dX7_cross_156 : decode cX7_cross 156 = .ok (.aload_n 0, 1) := by decide +kernel
theorem dX7_cross_157 : decode cX7_cross 157 = .ok (.getfield 13, 3) := by decide +kernel
theorem dX7_cross_160 : decode cX7_cross 160 = .ok (.iload_n 1, 1) := by decide +kernel
theorem dX7_cross_161 : decode cX7_cross 161 = .ok (.iaload, 1) := by decide +kernel
theorem dX7_cross_162 : decode cX7_cross 162 = .ok (.iload_n 3, 1) := by decide +kernel
theorem dX7_cross_163 : decode cX7_cross 163 = .ok (.invokevirtual 91, 3) := by decide +kernel
theorem dX7_cross_166 : decode cX7_cross 166 = .ok (.iload 4, 2) := by decide +kernel
theorem dX7_cross_168 : decode cX7_cross 168 = .ok (.invokevirtual 95, 3) := by decide +kernel
theorem dX7_cross_171 : decode cX7_cross 171 = .ok (.ireturn, 1) := by decide +kernel
theorem dX7_hasIssued_0 : decode cX7_hasIssued 0 = .ok (.iconst 0, 1) := by decide +kernel
theorem dX7_hasIssued_1 : decode cX7_hasIssued 1 = .ok (.istore_n 2, 1) := by decide +kernel
theorem dX7_hasIssued_2 : decode cX7_hasIssued 2 = .ok (.iconst 0, 1) := by decide +kernel
theorem dX7_hasIssued_3 : decode cX7_hasIssued 3 = .ok (.istore_n 3, 1) := by decide +kernel
theorem dX7_hasIssued_4 : decode cX7_hasIssued 4 = .ok (.iload_n 3, 1) := by decide +kernel
theorem dX7_hasIssued_5 : decode cX7_hasIssued 5 = .ok (.aload_n 0, 1) := by decide +kernel
theorem dX7_hasIssued_6 : decode cX7_hasIssued 6 = .ok (.getfield 71, 3) := by decide +kernel
theorem dX7_hasIssued_9 : decode cX7_hasIssued 9 = .ok (.if_icmp .ge 36, 3) := by decide +kernel
theorem dX7_hasIssued_12 : decode cX7_hasIssued 12 = .ok (.iload_n 2, 1) := by decide +kernel
theorem dX7_hasIssued_13 : decode cX7_hasIssued 13 = .ok (.aload_n 0, 1) := by decide +kernel
theorem dX7_hasIssued_14 : decode cX7_hasIssued 14 = .ok (.getfield 25, 3) := by decide +kernel
theorem dX7_hasIssued_17 : decode cX7_hasIssued 17 = .ok (.iload_n 3, 1) := by decide +kernel
theorem dX7_hasIssued_18 : decode cX7_hasIssued 18 = .ok (.iaload, 1) := by decide +kernel
theorem dX7_hasIssued_19 : decode cX7_hasIssued 19 = .ok (.iload_n 1, 1) := by decide +kernel
theorem dX7_hasIssued_20 : decode cX7_hasIssued 20 = .ok (.if_icmp .ne 16, 3) := by decide +kernel
theorem dX7_hasIssued_23 : decode cX7_hasIssued 23 = .ok (.aload_n 0, 1) := by decide +kernel
theorem dX7_hasIssued_24 : decode cX7_hasIssued 24 = .ok (.getfield 44, 3) := by decide +kernel
theorem dX7_hasIssued_27 : decode cX7_hasIssued 27 = .ok (.iload_n 3, 1) := by decide +kernel
theorem dX7_hasIssued_28 : decode cX7_hasIssued 28 = .ok (.baload, 1) := by decide +kernel
theorem dX7_hasIssued_29 : decode cX7_hasIssued 29 = .ok (.ifCond .ne 7, 3) := by decide +kernel
theorem dX7_hasIssued_32 : decode cX7_hasIssued 32 = .ok (.iconst 1, 1) := by decide +kernel
theorem dX7_hasIssued_33 : decode cX7_hasIssued 33 = .ok (.goto 4, 3) := by decide +kernel
theorem dX7_hasIssued_36 : decode cX7_hasIssued 36 = .ok (.iconst 0, 1) := by decide +kernel
theorem dX7_hasIssued_37 : decode cX7_hasIssued 37 = .ok (.ior, 1) := by decide +kernel
theorem dX7_hasIssued_38 : decode cX7_hasIssued 38 = .ok (.istore_n 2, 1) := by decide +kernel
theorem dX7_hasIssued_39 : decode cX7_hasIssued 39 = .ok (.iinc 3 1, 3) := by decide +kernel
theorem dX7_hasIssued_42 : decode cX7_hasIssued 42 = .ok (.goto (-38), 3) := by decide +kernel
theorem dX7_hasIssued_45 : decode cX7_hasIssued 45 = .ok (.iload_n 2, 1) := by decide +kernel
theorem dX7_hasIssued_46 : decode cX7_hasIssued 46 = .ok (.ireturn, 1) := by decide +kernel
theorem dX7_setNames_0 : decode cX7_setNames 0 = .ok (.iload_n 2, 1) := by decide +kernel
theorem dX7_setNames_1 : decode cX7_setNames 1 = .ok (.ifCond .eq 10, 3) := by decide +kernel
theorem dX7_setNames_4 : decode cX7_setNames 4 = .ok (.iload_n 2, 1) := by decide +kernel
theorem dX7_setNames_5 : decode cX7_setNames 5 = .ok (.invokestatic 85, 3) := by decide +kernel
theorem dX7_setNames_8 : decode cX7_setNames 8 = .ok (.ifCond .eq 18, 3) := by decide +kernel
theorem dX7_setNames_11 : decode cX7_setNames 11 = .ok (.iload_n 3, 1) := by decide +kernel
theorem dX7_setNames_12 : decode cX7_setNames 12 = .ok (.ifCond .eq 10, 3) := by decide +kernel
theorem dX7_setNames_15 : decode cX7_setNames 15 = .ok (.iload_n 3, 1) := by decide +kernel
theorem dX7_setNames_16 : decode cX7_setNames 16 = .ok (.invokestatic 85, 3) := by decide +kernel
theorem dX7_setNames_19 : decode cX7_setNames 19 = .ok (.ifCond .eq 7, 3) := by decide +kernel
theorem dX7_setNames_22 : decode cX7_setNames 22 = .ok (.iconst 1, 1) := by decide +kernel
theorem dX7_setNames_23 : decode cX7_setNames 23 = .ok (.goto 4, 3) := by decide +kernel
theorem dX7_setNames_26 : decode cX7_setNames 26 = .ok (.iconst 0, 1) := by decide +kernel
theorem dX7_setNames_27 : decode cX7_setNames 27 = .ok (.istore 4, 2) := by decide +kernel
theorem dX7_setNames_29 : decode cX7_setNames 29 = .ok (.aload_n 0, 1) := by decide +kernel
theorem dX7_setNames_30 : decode cX7_setNames 30 = .ok (.iload_n 1, 1) := by decide +kernel
theorem dX7_setNames_31 : decode cX7_setNames 31 = .ok (.invokevirtual 99, 3) := by decide +kernel
theorem dX7_setNames_34 : decode cX7_setNames 34 = .ok (.ifCond .ne 56, 3) := by decide +kernel
theorem dX7_setNames_37 : decode cX7_setNames 37 = .ok (.aload_n 0, 1) := by decide +kernel
theorem dX7_setNames_38 : decode cX7_setNames 38 = .ok (.iload 4, 2) := by decide +kernel
theorem dX7_setNames_40 : decode cX7_setNames 40 = .ok (.ifCond .ne 7, 3) := by decide +kernel
theorem dX7_setNames_43 : decode cX7_setNames 43 = .ok (.iconst 1, 1) := by decide +kernel
theorem dX7_setNames_44 : decode cX7_setNames 44 = .ok (.goto 4, 3) := by decide +kernel
theorem dX7_setNames_47 : decode cX7_setNames 47 = .ok (.iconst 0, 1) := by decide +kernel
theorem dX7_setNames_48 : decode cX7_setNames 48 = .ok (.iconst 2, 1) := by decide +kernel
theorem dX7_setNames_49 : decode cX7_setNames 49 = .ok (.invokevirtual 78, 3) := by decide +kernel
theorem dX7_setNames_52 : decode cX7_setNames 52 = .ok (.ifCond .ne 38, 3) := by decide +kernel
theorem dX7_setNames_55 : decode cX7_setNames 55 = .ok (.aload_n 0, 1) := by decide +kernel
theorem dX7_setNames_56 : decode cX7_setNames 56 = .ok (.aload_n 0, 1) := by decide +kernel
theorem dX7_setNames_57 : decode cX7_setNames 57 = .ok (.getfield 40, 3) := by decide +kernel
theorem dX7_setNames_60 : decode cX7_setNames 60 = .ok (.iload_n 1, 1) := by decide +kernel
theorem dX7_setNames_61 : decode cX7_setNames 61 = .ok (.baload, 1) := by decide +kernel
theorem dX7_setNames_62 : decode cX7_setNames 62 = .ok (.ifCond .eq 16, 3) := by decide +kernel
theorem dX7_setNames_65 : decode cX7_setNames 65 = .ok (.aload_n 0, 1) := by decide +kernel
theorem dX7_setNames_66 : decode cX7_setNames 66 = .ok (.aload_n 0, 1) := by decide +kernel
theorem dX7_setNames_67 : decode cX7_setNames 67 = .ok (.getfield 13, 3) := by decide +kernel
theorem dX7_setNames_70 : decode cX7_setNames 70 = .ok (.iload_n 1, 1) := by decide +kernel
theorem dX7_setNames_71 : decode cX7_setNames 71 = .ok (.iaload, 1) := by decide +kernel
theorem dX7_setNames_72 : decode cX7_setNames 72 = .ok (.invokevirtual 110, 3) := by decide +kernel
theorem dX7_setNames_75 : decode cX7_setNames 75 = .ok (.ifCond .eq 7, 3) := by decide +kernel
theorem dX7_setNames_78 : decode cX7_setNames 78 = .ok (.iconst 1, 1) := by decide +kernel
theorem dX7_setNames_79 : decode cX7_setNames 79 = .ok (.goto 4, 3) := by decide +kernel
theorem dX7_setNames_82 : decode cX7_setNames 82 = .ok (.iconst 0, 1) := by decide +kernel
theorem dX7_setNames_83 : decode cX7_setNames 83 = .ok (.iconst 3, 1) := by decide +kernel
theorem dX7_setNames_84 : decode cX7_setNames 84 = .ok (.invokevirtual 78, 3) := by decide +kernel
theorem dX7_setNames_87 : decode cX7_setNames 87 = .ok (.ifCond .eq 5, 3) := by decide +kernel
theorem dX7_setNames_90 : decode cX7_setNames 90 = .ok (.iconst 0, 1) := by decide +kernel
theorem dX7_setNames_91 : decode cX7_setNames 91 = .ok (.ireturn, 1) := by decide +kernel
theorem dX7_setNames_92 : decode cX7_setNames 92 = .ok (.aload_n 0, 1) := by decide +kernel
theorem dX7_setNames_93 : decode cX7_setNames 93 = .ok (.getfield 31, 3) := by decide +kernel
theorem dX7_setNames_96 : decode cX7_setNames 96 = .ok (.iload_n 1, 1) := by decide +kernel
theorem dX7_setNames_97 : decode cX7_setNames 97 = .ok (.iload_n 2, 1) := by decide +kernel
theorem dX7_setNames_98 : decode cX7_setNames 98 = .ok (.iastore, 1) := by decide +kernel
theorem dX7_setNames_99 : decode cX7_setNames 99 = .ok (.aload_n 0, 1) := by decide +kernel
theorem dX7_setNames_100 : decode cX7_setNames 100 = .ok (.getfield 34, 3) := by decide +kernel
theorem dX7_setNames_103 : decode cX7_setNames 103 = .ok (.iload_n 1, 1) := by decide +kernel
theorem dX7_setNames_104 : decode cX7_setNames 104 = .ok (.iload_n 3, 1) := by decide +kernel
theorem dX7_setNames_105 : decode cX7_setNames 105 = .ok (.iastore, 1) := by decide +kernel
theorem dX7_setNames_106 : decode cX7_setNames 106 = .ok (.iload_n 2, 1) := by decide +kernel
theorem dX7_setNames_107 : decode cX7_setNames 107 = .ok (.ifCond .eq 7, 3) := by decide +kernel
theorem dX7_setNames_110 : decode cX7_setNames 110 = .ok (.iconst 1, 1) := by decide +kernel
theorem dX7_setNames_111 : decode cX7_setNames 111 = .ok (.goto 4, 3) := by decide +kernel
theorem dX7_setNames_114 : decode cX7_setNames 114 = .ok (.iconst 0, 1) := by decide +kernel
theorem dX7_setNames_115 : decode cX7_setNames 115 = .ok (.iload_n 3, 1) := by decide +kernel
theorem dX7_setNames_116 : decode cX7_setNames 116 = .ok (.ifCond .eq 7, 3) := by decide +kernel
theorem dX7_setNames_119 : decode cX7_setNames 119 = .ok (.iconst 1, 1) := by decide +kernel
theorem dX7_setNames_120 : decode cX7_setNames 120 = .ok (.goto 4, 3) := by decide +kernel
theorem dX7_setNames_123 : decode cX7_setNames 123 = .ok (.iconst 0, 1) := by decide +kernel
theorem dX7_setNames_124 : decode cX7_setNames 124 = .ok (.iadd, 1) := by decide +kernel
theorem dX7_setNames_125 : decode cX7_setNames 125 = .ok (.ireturn, 1) := by decide +kernel
theorem dX7_trust_0 : decode cX7_trust 0 = .ok (.aload_n 0, 1) := by decide +kernel
theorem dX7_trust_1 : decode cX7_trust 1 = .ok (.iload_n 1, 1) := by decide +kernel
theorem dX7_trust_2 : decode cX7_trust 2 = .ok (.invokevirtual 99, 3) := by decide +kernel
theorem dX7_trust_5 : decode cX7_trust 5 = .ok (.ifCond .ne 25, 3) := by decide +kernel
theorem dX7_trust_8 : decode cX7_trust 8 = .ok (.aload_n 0, 1) := by decide +kernel
theorem dX7_trust_9 : decode cX7_trust 9 = .ok (.aload_n 0, 1) := by decide +kernel
theorem dX7_trust_10 : decode cX7_trust 10 = .ok (.getfield 44, 3) := by decide +kernel
theorem dX7_trust_13 : decode cX7_trust 13 = .ok (.iload_n 1, 1) := by decide +kernel
theorem dX7_trust_14 : decode cX7_trust 14 = .ok (.baload, 1) := by decide +kernel
theorem dX7_trust_15 : decode cX7_trust 15 = .ok (.ifCond .ne 7, 3) := by decide +kernel
theorem dX7_trust_18 : decode cX7_trust 18 = .ok (.iconst 1, 1) := by decide +kernel
theorem dX7_trust_19 : decode cX7_trust 19 = .ok (.goto 4, 3) := by decide +kernel
theorem dX7_trust_22 : decode cX7_trust 22 = .ok (.iconst 0, 1) := by decide +kernel
theorem dX7_trust_23 : decode cX7_trust 23 = .ok (.iconst 2, 1) := by decide +kernel
theorem dX7_trust_24 : decode cX7_trust 24 = .ok (.invokevirtual 78, 3) := by decide +kernel
theorem dX7_trust_27 : decode cX7_trust 27 = .ok (.ifCond .eq 5, 3) := by decide +kernel
theorem dX7_trust_30 : decode cX7_trust 30 = .ok (.iconst 0, 1) := by decide +kernel
theorem dX7_trust_31 : decode cX7_trust 31 = .ok (.ireturn, 1) := by decide +kernel
theorem dX7_trust_32 : decode cX7_trust 32 = .ok (.aload_n 0, 1) := by decide +kernel
theorem dX7_trust_33 : decode cX7_trust 33 = .ok (.getfield 47, 3) := by decide +kernel
theorem dX7_trust_36 : decode cX7_trust 36 = .ok (.iload_n 1, 1) := by decide +kernel
theorem dX7_trust_37 : decode cX7_trust 37 = .ok (.iload_n 2, 1) := by decide +kernel
theorem dX7_trust_38 : decode cX7_trust 38 = .ok (.bastore, 1) := by decide +kernel
theorem dX7_trust_39 : decode cX7_trust 39 = .ok (.iconst 0, 1) := by decide +kernel
theorem dX7_trust_40 : decode cX7_trust 40 = .ok (.istore_n 3, 1) := by decide +kernel
theorem dX7_trust_41 : decode cX7_trust 41 = .ok (.iconst 0, 1) := by decide +kernel
theorem dX7_trust_42 : decode cX7_trust 42 = .ok (.istore 4, 2) := by decide +kernel
theorem dX7_trust_44 : decode cX7_trust 44 = .ok (.iload 4, 2) := by decide +kernel
theorem dX7_trust_46 : decode cX7_trust 46 = .ok (.aload_n 0, 1) := by decide +kernel
theorem dX7_trust_47 : decode cX7_trust 47 = .ok (.getfield 71, 3) := by decide +kernel
theorem dX7_trust_50 : decode cX7_trust 50 = .ok (.if_icmp .ge 27, 3) := by decide +kernel
theorem dX7_trust_53 : decode cX7_trust 53 = .ok (.iload_n 3, 1) := by decide +kernel
theorem dX7_trust_54 : decode cX7_trust 54 = .ok (.aload_n 0, 1) := by decide +kernel
theorem dX7_trust_55 : decode cX7_trust 55 = .ok (.getfield 47, 3) := by decide +kernel
theorem dX7_trust_58 : decode cX7_trust 58 = .ok (.iload 4, 2) := by decide +kernel
theorem dX7_trust_60 : decode cX7_trust 60 = .ok (.baload, 1) := by decide +kernel
theorem dX7_trust_61 : decode cX7_trust 61 = .ok (.ifCond .eq 7, 3) := by decide +kernel
theorem dX7_trust_64 : decode cX7_trust 64 = .ok (.iconst 1, 1) := by decide +kernel
theorem dX7_trust_65 : decode cX7_trust 65 = .ok (.goto 4, 3) := by decide +kernel
theorem dX7_trust_68 : decode cX7_trust 68 = .ok (.iconst 0, 1) := by decide +kernel
theorem dX7_trust_69 : decode cX7_trust 69 = .ok (.iadd, 1) := by decide +kernel
theorem dX7_trust_70 : decode cX7_trust 70 = .ok (.istore_n 3, 1) := by decide +kernel
theorem dX7_trust_71 : decode cX7_trust 71 = .ok (.iinc 4 1, 3) := by decide +kernel
theorem dX7_trust_74 : decode cX7_trust 74 = .ok (.goto (-30), 3) := by decide +kernel
theorem dX7_trust_77 : decode cX7_trust 77 = .ok (.iload_n 3, 1) := by decide +kernel
theorem dX7_trust_78 : decode cX7_trust 78 = .ok (.ireturn, 1) := by decide +kernel
theorem dX7_revoke_0 : decode cX7_revoke 0 = .ok (.aload_n 0, 1) := by decide +kernel
theorem dX7_revoke_1 : decode cX7_revoke 1 = .ok (.iload_n 1, 1) := by decide +kernel
theorem dX7_revoke_2 : decode cX7_revoke 2 = .ok (.invokevirtual 99, 3) := by decide +kernel
theorem dX7_revoke_5 : decode cX7_revoke 5 = .ok (.ifCond .ne 34, 3) := by decide +kernel
theorem dX7_revoke_8 : decode cX7_revoke 8 = .ok (.aload_n 0, 1) := by decide +kernel
theorem dX7_revoke_9 : decode cX7_revoke 9 = .ok (.aload_n 0, 1) := by decide +kernel
theorem dX7_revoke_10 : decode cX7_revoke 10 = .ok (.getfield 44, 3) := by decide +kernel
theorem dX7_revoke_13 : decode cX7_revoke 13 = .ok (.iload_n 1, 1) := by decide +kernel
theorem dX7_revoke_14 : decode cX7_revoke 14 = .ok (.baload, 1) := by decide +kernel
theorem dX7_revoke_15 : decode cX7_revoke 15 = .ok (.ifCond .ne 12, 3) := by decide +kernel
theorem dX7_revoke_18 : decode cX7_revoke 18 = .ok (.aload_n 0, 1) := by decide +kernel
theorem dX7_revoke_19 : decode cX7_revoke 19 = .ok (.getfield 50, 3) := by decide +kernel
theorem dX7_revoke_22 : decode cX7_revoke 22 = .ok (.iload_n 1, 1) := by decide +kernel
theorem dX7_revoke_23 : decode cX7_revoke 23 = .ok (.baload, 1) := by decide +kernel
theorem dX7_revoke_24 : decode cX7_revoke 24 = .ok (.ifCond .eq 7, 3) := by decide +kernel
theorem dX7_revoke_27 : decode cX7_revoke 27 = .ok (.iconst 1, 1) := by decide +kernel
theorem dX7_revoke_28 : decode cX7_revoke 28 = .ok (.goto 4, 3) := by decide +kernel
theorem dX7_revoke_31 : decode cX7_revoke 31 = .ok (.iconst 0, 1) := by decide +kernel
theorem dX7_revoke_32 : decode cX7_revoke 32 = .ok (.iconst 2, 1) := by decide +kernel
theorem dX7_revoke_33 : decode cX7_revoke 33 = .ok (.invokevirtual 78, 3) := by decide +kernel
theorem dX7_revoke_36 : decode cX7_revoke 36 = .ok (.ifCond .eq 5, 3) := by decide +kernel
theorem dX7_revoke_39 : decode cX7_revoke 39 = .ok (.iconst 0, 1) := by decide +kernel
theorem dX7_revoke_40 : decode cX7_revoke 40 = .ok (.ireturn, 1) := by decide +kernel
theorem dX7_revoke_41 : decode cX7_revoke 41 = .ok (.aload_n 0, 1) := by decide +kernel
theorem dX7_revoke_42 : decode cX7_revoke 42 = .ok (.getfield 50, 3) := by decide +kernel
theorem dX7_revoke_45 : decode cX7_revoke 45 = .ok (.iload_n 1, 1) := by decide +kernel
theorem dX7_revoke_46 : decode cX7_revoke 46 = .ok (.iconst 1, 1) := by decide +kernel
theorem dX7_revoke_47 : decode cX7_revoke 47 = .ok (.bastore, 1) := by decide +kernel
theorem dX7_revoke_48 : decode cX7_revoke 48 = .ok (.iconst 0, 1) := by decide +kernel
theorem dX7_revoke_49 : decode cX7_revoke 49 = .ok (.istore_n 2, 1) := by decide +kernel
theorem dX7_revoke_50 : decode cX7_revoke 50 = .ok (.iconst 0, 1) := by decide +kernel
theorem dX7_revoke_51 : decode cX7_revoke 51 = .ok (.istore_n 3, 1) := by decide +kernel
theorem dX7_revoke_52 : decode cX7_revoke 52 = .ok (.iload_n 3, 1) := by decide +kernel
theorem dX7_revoke_53 : decode cX7_revoke 53 = .ok (.aload_n 0, 1) := by decide +kernel
theorem dX7_revoke_54 : decode cX7_revoke 54 = .ok (.getfield 71, 3) := by decide +kernel
theorem dX7_revoke_57 : decode cX7_revoke 57 = .ok (.if_icmp .ge 50, 3) := by decide +kernel
theorem dX7_revoke_60 : decode cX7_revoke 60 = .ok (.iload_n 2, 1) := by decide +kernel
theorem dX7_revoke_61 : decode cX7_revoke 61 = .ok (.aload_n 0, 1) := by decide +kernel
theorem dX7_revoke_62 : decode cX7_revoke 62 = .ok (.getfield 25, 3) := by decide +kernel
theorem dX7_revoke_65 : decode cX7_revoke 65 = .ok (.iload_n 3, 1) := by decide +kernel
theorem dX7_revoke_66 : decode cX7_revoke 66 = .ok (.iaload, 1) := by decide +kernel
theorem dX7_revoke_67 : decode cX7_revoke 67 = .ok (.aload_n 0, 1) := by decide +kernel
theorem dX7_revoke_68 : decode cX7_revoke 68 = .ok (.getfield 25, 3) := by decide +kernel
theorem dX7_revoke_71 : decode cX7_revoke 71 = .ok (.iload_n 1, 1) := by decide +kernel
theorem dX7_revoke_72 : decode cX7_revoke 72 = .ok (.iaload, 1) := by decide +kernel
theorem dX7_revoke_73 : decode cX7_revoke 73 = .ok (.if_icmp .ne 25, 3) := by decide +kernel
theorem dX7_revoke_76 : decode cX7_revoke 76 = .ok (.aload_n 0, 1) := by decide +kernel
theorem dX7_revoke_77 : decode cX7_revoke 77 = .ok (.getfield 50, 3) := by decide +kernel
theorem dX7_revoke_80 : decode cX7_revoke 80 = .ok (.iload_n 3, 1) := by decide +kernel
theorem dX7_revoke_81 : decode cX7_revoke 81 = .ok (.baload, 1) := by decide +kernel
theorem dX7_revoke_82 : decode cX7_revoke 82 = .ok (.ifCond .eq 16, 3) := by decide +kernel
theorem dX7_revoke_85 : decode cX7_revoke 85 = .ok (.aload_n 0, 1) := by decide +kernel
theorem dX7_revoke_86 : decode cX7_revoke 86 = .ok (.getfield 37, 3) := by decide +kernel
theorem dX7_revoke_89 : decode cX7_revoke 89 = .ok (.iload_n 3, 1) := by decide +kernel
theorem dX7_revoke_90 : decode cX7_revoke 90 = .ok (.iaload, 1) := by decide +kernel
theorem dX7_revoke_91 : decode cX7_revoke 91 = .ok (.ifCond .ge 7, 3) := by decide +kernel
theorem dX7_revoke_94 : decode cX7_revoke 94 = .ok (.iconst 1, 1) := by decide +kernel
theorem dX7_revoke_95 : decode cX7_revoke 95 = .ok (.goto 4, 3) := by decide +kernel
theorem dX7_revoke_98 : decode cX7_revoke 98 = .ok (.iconst 0, 1) := by decide +kernel
theorem dX7_revoke_99 : decode cX7_revoke 99 = .ok (.iadd, 1) := by decide +kernel
theorem dX7_revoke_100 : decode cX7_revoke 100 = .ok (.istore_n 2, 1) := by decide +kernel
theorem dX7_revoke_101 : decode cX7_revoke 101 = .ok (.iinc 3 1, 3) := by decide +kernel
theorem dX7_revoke_104 : decode cX7_revoke 104 = .ok (.goto (-52), 3) := by decide +kernel
theorem dX7_revoke_107 : decode cX7_revoke 107 = .ok (.iload_n 2, 1) := by decide +kernel
theorem dX7_revoke_108 : decode cX7_revoke 108 = .ok (.ireturn, 1) := by decide +kernel
theorem dX7_publish_0 : decode cX7_publish 0 = .ok (.aload_n 0, 1) := by decide +kernel
theorem dX7_publish_1 : decode cX7_publish 1 = .ok (.iload_n 1, 1) := by decide +kernel
theorem dX7_publish_2 : decode cX7_publish 2 = .ok (.invokevirtual 99, 3) := by decide +kernel
theorem dX7_publish_5 : decode cX7_publish 5 = .ok (.ifCond .ne 25, 3) := by decide +kernel
theorem dX7_publish_8 : decode cX7_publish 8 = .ok (.aload_n 0, 1) := by decide +kernel
theorem dX7_publish_9 : decode cX7_publish 9 = .ok (.aload_n 0, 1) := by decide +kernel
theorem dX7_publish_10 : decode cX7_publish 10 = .ok (.getfield 40, 3) := by decide +kernel
theorem dX7_publish_13 : decode cX7_publish 13 = .ok (.iload_n 1, 1) := by decide +kernel
theorem dX7_publish_14 : decode cX7_publish 14 = .ok (.baload, 1) := by decide +kernel
theorem dX7_publish_15 : decode cX7_publish 15 = .ok (.ifCond .ne 7, 3) := by decide +kernel
theorem dX7_publish_18 : decode cX7_publish 18 = .ok (.iconst 1, 1) := by decide +kernel
theorem dX7_publish_19 : decode cX7_publish 19 = .ok (.goto 4, 3) := by decide +kernel
theorem dX7_publish_22 : decode cX7_publish 22 = .ok (.iconst 0, 1) := by decide +kernel
theorem dX7_publish_23 : decode cX7_publish 23 = .ok (.iconst 2, 1) := by decide +kernel
theorem dX7_publish_24 : decode cX7_publish 24 = .ok (.invokevirtual 78, 3) := by decide +kernel
theorem dX7_publish_27 : decode cX7_publish 27 = .ok (.ifCond .eq 5, 3) := by decide +kernel
theorem dX7_publish_30 : decode cX7_publish 30 = .ok (.iconst 0, 1) := by decide +kernel
theorem dX7_publish_31 : decode cX7_publish 31 = .ok (.ireturn, 1) := by decide +kernel
theorem dX7_publish_32 : decode cX7_publish 32 = .ok (.iconst 0, 1) := by decide +kernel
theorem dX7_publish_33 : decode cX7_publish 33 = .ok (.istore_n 2, 1) := by decide +kernel
theorem dX7_publish_34 : decode cX7_publish 34 = .ok (.iconst 0, 1) := by decide +kernel
theorem dX7_publish_35 : decode cX7_publish 35 = .ok (.istore_n 3, 1) := by decide +kernel
theorem dX7_publish_36 : decode cX7_publish 36 = .ok (.iload_n 3, 1) := by decide +kernel
theorem dX7_publish_37 : decode cX7_publish 37 = .ok (.aload_n 0, 1) := by decide +kernel
theorem dX7_publish_38 : decode cX7_publish 38 = .ok (.getfield 71, 3) := by decide +kernel
theorem dX7_publish_41 : decode cX7_publish 41 = .ok (.if_icmp .ge 86, 3) := by decide +kernel
theorem dX7_publish_44 : decode cX7_publish 44 = .ok (.aload_n 0, 1) := by decide +kernel
theorem dX7_publish_45 : decode cX7_publish 45 = .ok (.getfield 25, 3) := by decide +kernel
theorem dX7_publish_48 : decode cX7_publish 48 = .ok (.iload_n 3, 1) := by decide +kernel
theorem dX7_publish_49 : decode cX7_publish 49 = .ok (.iaload, 1) := by decide +kernel
theorem dX7_publish_50 : decode cX7_publish 50 = .ok (.aload_n 0, 1) := by decide +kernel
theorem dX7_publish_51 : decode cX7_publish 51 = .ok (.getfield 13, 3) := by decide +kernel
theorem dX7_publish_54 : decode cX7_publish 54 = .ok (.iload_n 1, 1) := by decide +kernel
theorem dX7_publish_55 : decode cX7_publish 55 = .ok (.iaload, 1) := by decide +kernel
theorem dX7_publish_56 : decode cX7_publish 56 = .ok (.if_icmp .ne 25, 3) := by decide +kernel
theorem dX7_publish_59 : decode cX7_publish 59 = .ok (.aload_n 0, 1) := by decide +kernel
theorem dX7_publish_60 : decode cX7_publish 60 = .ok (.getfield 50, 3) := by decide +kernel
theorem dX7_publish_63 : decode cX7_publish 63 = .ok (.iload_n 3, 1) := by decide +kernel
theorem dX7_publish_64 : decode cX7_publish 64 = .ok (.baload, 1) := by decide +kernel
theorem dX7_publish_65 : decode cX7_publish 65 = .ok (.ifCond .eq 16, 3) := by decide +kernel
theorem dX7_publish_68 : decode cX7_publish 68 = .ok (.aload_n 0, 1) := by decide +kernel
theorem dX7_publish_69 : decode cX7_publish 69 = .ok (.getfield 37, 3) := by decide +kernel
theorem dX7_publish_72 : decode cX7_publish 72 = .ok (.iload_n 3, 1) := by decide +kernel
theorem dX7_publish_73 : decode cX7_publish 73 = .ok (.iaload, 1) := by decide +kernel
theorem dX7_publish_74 : decode cX7_publish 74 = .ok (.ifCond .ge 7, 3) := by decide +kernel
theorem dX7_publish_77 : decode cX7_publish 77 = .ok (.iconst 1, 1) := by decide +kernel
theorem dX7_publish_78 : decode cX7_publish 78 = .ok (.goto 4, 3) := by decide +kernel
theorem dX7_publish_81 : decode cX7_publish 81 = .ok (.iconst 0, 1) := by decide +kernel
theorem dX7_publish_82 : decode cX7_publish 82 = .ok (.istore 4, 2) := by decide +kernel
theorem dX7_publish_84 : decode cX7_publish 84 = .ok (.aload_n 0, 1) := by decide +kernel
theorem dX7_publish_85 : decode cX7_publish 85 = .ok (.getfield 37, 3) := by decide +kernel
theorem dX7_publish_88 : decode cX7_publish 88 = .ok (.iload_n 3, 1) := by decide +kernel
theorem dX7_publish_89 : decode cX7_publish 89 = .ok (.iload 4, 2) := by decide +kernel
theorem dX7_publish_91 : decode cX7_publish 91 = .ok (.ifCond .eq 10, 3) := by decide +kernel
theorem dX7_publish_94 : decode cX7_publish 94 = .ok (.aload_n 0, 1) := by decide +kernel
theorem dX7_publish_95 : decode cX7_publish 95 = .ok (.getfield 82, 3) := by decide +kernel
theorem dX7_publish_98 : decode cX7_publish 98 = .ok (.goto 9, 3) := by decide +kernel
theorem dX7_publish_101 : decode cX7_publish 101 = .ok (.aload_n 0, 1) := by decide +kernel
theorem dX7_publish_102 : decode cX7_publish 102 = .ok (.getfield 37, 3) := by decide +kernel
theorem dX7_publish_105 : decode cX7_publish 105 = .ok (.iload_n 3, 1) := by decide +kernel
theorem dX7_publish_106 : decode cX7_publish 106 = .ok (.iaload, 1) := by decide +kernel
theorem dX7_publish_107 : decode cX7_publish 107 = .ok (.iastore, 1) := by decide +kernel
theorem dX7_publish_108 : decode cX7_publish 108 = .ok (.iload_n 2, 1) := by decide +kernel
theorem dX7_publish_109 : decode cX7_publish 109 = .ok (.iload 4, 2) := by decide +kernel
theorem dX7_publish_111 : decode cX7_publish 111 = .ok (.ifCond .eq 7, 3) := by decide +kernel
theorem dX7_publish_114 : decode cX7_publish 114 = .ok (.iconst 1, 1) := by decide +kernel
theorem dX7_publish_115 : decode cX7_publish 115 = .ok (.goto 4, 3) := by decide +kernel
theorem dX7_publish_118 : decode cX7_publish 118 = .ok (.iconst 0, 1) := by decide +kernel
theorem dX7_publish_119 : decode cX7_publish 119 = .ok (.iadd, 1) := by decide +kernel
theorem dX7_publish_120 : decode cX7_publish 120 = .ok (.istore_n 2, 1) := by decide +kernel
theorem dX7_publish_121 : decode cX7_publish 121 = .ok (.iinc 3 1, 3) := by decide +kernel
theorem dX7_publish_124 : decode cX7_publish 124 = .ok (.goto (-88), 3) := by decide +kernel
theorem dX7_publish_127 : decode cX7_publish 127 = .ok (.iload_n 2, 1) := by decide +kernel
theorem dX7_publish_128 : decode cX7_publish 128 = .ok (.ireturn, 1) := by decide +kernel
theorem dX7_pass_0 : decode cX7_pass 0 = .ok (.aload_n 0, 1) := by decide +kernel
theorem dX7_pass_1 : decode cX7_pass 1 = .ok (.iload_n 1, 1) := by decide +kernel
theorem dX7_pass_2 : decode cX7_pass 2 = .ok (.iconst 1, 1) := by decide +kernel
theorem dX7_pass_3 : decode cX7_pass 3 = .ok (.sipush 999, 3) := by decide +kernel
theorem dX7_pass_6 : decode cX7_pass 6 = .ok (.invokestatic 67, 3) := by decide +kernel
theorem dX7_pass_9 : decode cX7_pass 9 = .ok (.ifCond .ne 7, 3) := by decide +kernel
theorem dX7_pass_12 : decode cX7_pass 12 = .ok (.iconst 1, 1) := by decide +kernel
theorem dX7_pass_13 : decode cX7_pass 13 = .ok (.goto 4, 3) := by decide +kernel
theorem dX7_pass_16 : decode cX7_pass 16 = .ok (.iconst 0, 1) := by decide +kernel
theorem dX7_pass_17 : decode cX7_pass 17 = .ok (.iconst 1, 1) := by decide +kernel
theorem dX7_pass_18 : decode cX7_pass 18 = .ok (.invokevirtual 78, 3) := by decide +kernel
theorem dX7_pass_21 : decode cX7_pass 21 = .ok (.ifCond .eq 5, 3) := by decide +kernel
theorem dX7_pass_24 : decode cX7_pass 24 = .ok (.iconst 0, 1) := by decide +kernel
theorem dX7_pass_25 : decode cX7_pass 25 = .ok (.ireturn, 1) := by decide +kernel
theorem dX7_pass_26 : decode cX7_pass 26 = .ok (.aload_n 0, 1) := by decide +kernel
theorem dX7_pass_27 : decode cX7_pass 27 = .ok (.dup, 1) := by decide +kernel
theorem dX7_pass_28 : decode cX7_pass 28 = .ok (.getfield 82, 3) := by decide +kernel
theorem dX7_pass_31 : decode cX7_pass 31 = .ok (.iload_n 1, 1) := by decide +kernel
theorem dX7_pass_32 : decode cX7_pass 32 = .ok (.iadd, 1) := by decide +kernel
theorem dX7_pass_33 : decode cX7_pass 33 = .ok (.putfield 82, 3) := by decide +kernel
theorem dX7_pass_36 : decode cX7_pass 36 = .ok (.aload_n 0, 1) := by decide +kernel
theorem dX7_pass_37 : decode cX7_pass 37 = .ok (.getfield 82, 3) := by decide +kernel
theorem dX7_pass_40 : decode cX7_pass 40 = .ok (.ireturn, 1) := by decide +kernel
theorem dX7_isOff_0 : decode cX7_isOff 0 = .ok (.aload_n 0, 1) := by decide +kernel
theorem dX7_isOff_1 : decode cX7_isOff 1 = .ok (.getfield 37, 3) := by decide +kernel
theorem dX7_isOff_4 : decode cX7_isOff 4 = .ok (.iload_n 1, 1) := by decide +kernel
theorem dX7_isOff_5 : decode cX7_isOff 5 = .ok (.iaload, 1) := by decide +kernel
theorem dX7_isOff_6 : decode cX7_isOff 6 = .ok (.ifCond .lt 17, 3) := by decide +kernel
theorem dX7_isOff_9 : decode cX7_isOff 9 = .ok (.aload_n 0, 1) := by decide +kernel
theorem dX7_isOff_10 : decode cX7_isOff 10 = .ok (.getfield 37, 3) := by decide +kernel
theorem dX7_isOff_13 : decode cX7_isOff 13 = .ok (.iload_n 1, 1) := by decide +kernel
theorem dX7_isOff_14 : decode cX7_isOff 14 = .ok (.iaload, 1) := by decide +kernel
theorem dX7_isOff_15 : decode cX7_isOff 15 = .ok (.iload_n 2, 1) := by decide +kernel
theorem dX7_isOff_16 : decode cX7_isOff 16 = .ok (.if_icmp .gt 7, 3) := by decide +kernel
theorem dX7_isOff_19 : decode cX7_isOff 19 = .ok (.iconst 1, 1) := by decide +kernel
theorem dX7_isOff_20 : decode cX7_isOff 20 = .ok (.goto 4, 3) := by decide +kernel
theorem dX7_isOff_23 : decode cX7_isOff 23 = .ok (.iconst 0, 1) := by decide +kernel
theorem dX7_isOff_24 : decode cX7_isOff 24 = .ok (.ireturn, 1) := by decide +kernel
theorem dX7_isValid_0 : decode cX7_isValid 0 = .ok (.iload_n 2, 1) := by decide +kernel
theorem dX7_isValid_1 : decode cX7_isValid 1 = .ok (.aload_n 0, 1) := by decide +kernel
theorem dX7_isValid_2 : decode cX7_isValid 2 = .ok (.getfield 16, 3) := by decide +kernel
theorem dX7_isValid_5 : decode cX7_isValid 5 = .ok (.iload_n 1, 1) := by decide +kernel
theorem dX7_isValid_6 : decode cX7_isValid 6 = .ok (.iaload, 1) := by decide +kernel
theorem dX7_isValid_7 : decode cX7_isValid 7 = .ok (.aload_n 0, 1) := by decide +kernel
theorem dX7_isValid_8 : decode cX7_isValid 8 = .ok (.getfield 19, 3) := by decide +kernel
theorem dX7_isValid_11 : decode cX7_isValid 11 = .ok (.iload_n 1, 1) := by decide +kernel
theorem dX7_isValid_12 : decode cX7_isValid 12 = .ok (.iaload, 1) := by decide +kernel
theorem dX7_isValid_13 : decode cX7_isValid 13 = .ok (.invokestatic 67, 3) := by decide +kernel
theorem dX7_isValid_16 : decode cX7_isValid 16 = .ok (.ireturn, 1) := by decide +kernel
theorem dX7_tells_0 : decode cX7_tells 0 = .ok (.aload_n 0, 1) := by decide +kernel
theorem dX7_tells_1 : decode cX7_tells 1 = .ok (.iconst 0, 1) := by decide +kernel
theorem dX7_tells_2 : decode cX7_tells 2 = .ok (.putfield 63, 3) := by decide +kernel
theorem dX7_tells_5 : decode cX7_tells 5 = .ok (.iload_n 1, 1) := by decide +kernel
theorem dX7_tells_6 : decode cX7_tells 6 = .ok (.ireturn, 1) := by decide +kernel
theorem dX7_day_0 : decode cX7_day 0 = .ok (.aload_n 0, 1) := by decide +kernel
theorem dX7_day_1 : decode cX7_day 1 = .ok (.aload_n 0, 1) := by decide +kernel
theorem dX7_day_2 : decode cX7_day 2 = .ok (.getfield 82, 3) := by decide +kernel
theorem dX7_day_5 : decode cX7_day 5 = .ok (.invokevirtual 113, 3) := by decide +kernel
theorem dX7_day_8 : decode cX7_day 8 = .ok (.ireturn, 1) := by decide +kernel
theorem dX7_certificates_0 : decode cX7_certificates 0 = .ok (.aload_n 0, 1) := by decide +kernel
theorem dX7_certificates_1 : decode cX7_certificates 1 = .ok (.aload_n 0, 1) := by decide +kernel
theorem dX7_certificates_2 : decode cX7_certificates 2 = .ok (.getfield 71, 3) := by decide +kernel
theorem dX7_certificates_5 : decode cX7_certificates 5 = .ok (.invokevirtual 113, 3) := by decide +kernel
theorem dX7_certificates_8 : decode cX7_certificates 8 = .ok (.ireturn, 1) := by decide +kernel
theorem dX7_nameOf_0 : decode cX7_nameOf 0 = .ok (.aload_n 0, 1) := by decide +kernel
theorem dX7_nameOf_1 : decode cX7_nameOf 1 = .ok (.iload_n 1, 1) := by decide +kernel
theorem dX7_nameOf_2 : decode cX7_nameOf 2 = .ok (.invokevirtual 99, 3) := by decide +kernel
theorem dX7_nameOf_5 : decode cX7_nameOf 5 = .ok (.ifCond .eq 7, 3) := by decide +kernel
theorem dX7_nameOf_8 : decode cX7_nameOf 8 = .ok (.iconst 0, 1) := by decide +kernel
theorem dX7_nameOf_9 : decode cX7_nameOf 9 = .ok (.goto 9, 3) := by decide +kernel
theorem dX7_nameOf_12 : decode cX7_nameOf 12 = .ok (.aload_n 0, 1) := by decide +kernel
theorem dX7_nameOf_13 : decode cX7_nameOf 13 = .ok (.getfield 9, 3) := by decide +kernel
theorem dX7_nameOf_16 : decode cX7_nameOf 16 = .ok (.iload_n 1, 1) := by decide +kernel
theorem dX7_nameOf_17 : decode cX7_nameOf 17 = .ok (.iaload, 1) := by decide +kernel
theorem dX7_nameOf_18 : decode cX7_nameOf 18 = .ok (.ireturn, 1) := by decide +kernel
theorem dX7_keyOf_0 : decode cX7_keyOf 0 = .ok (.aload_n 0, 1) := by decide +kernel
theorem dX7_keyOf_1 : decode cX7_keyOf 1 = .ok (.iload_n 1, 1) := by decide +kernel
theorem dX7_keyOf_2 : decode cX7_keyOf 2 = .ok (.invokevirtual 99, 3) := by decide +kernel
theorem dX7_keyOf_5 : decode cX7_keyOf 5 = .ok (.ifCond .eq 7, 3) := by decide +kernel
theorem dX7_keyOf_8 : decode cX7_keyOf 8 = .ok (.iconst 0, 1) := by decide +kernel
theorem dX7_keyOf_9 : decode cX7_keyOf 9 = .ok (.goto 9, 3) := by decide +kernel
theorem dX7_keyOf_12 : decode cX7_keyOf 12 = .ok (.aload_n 0, 1) := by decide +kernel
theorem dX7_keyOf_13 : decode cX7_keyOf 13 = .ok (.getfield 13, 3) := by decide +kernel
theorem dX7_keyOf_16 : decode cX7_keyOf 16 = .ok (.iload_n 1, 1) := by decide +kernel
theorem dX7_keyOf_17 : decode cX7_keyOf 17 = .ok (.iaload, 1) := by decide +kernel
theorem dX7_keyOf_18 : decode cX7_keyOf 18 = .ok (.ireturn, 1) := by decide +kernel
theorem dX7_issuerKeyOf_0 : decode cX7_issuerKeyOf 0 = .ok (.aload_n 0, 1) := by decide +kernel
theorem dX7_issuerKeyOf_1 : decode cX7_issuerKeyOf 1 = .ok (.iload_n 1, 1) := by decide +kernel
theorem dX7_issuerKeyOf_2 : decode cX7_issuerKeyOf 2 = .ok (.invokevirtual 99, 3) := by decide +kernel
theorem dX7_issuerKeyOf_5 : decode cX7_issuerKeyOf 5 = .ok (.ifCond .eq 7, 3) := by decide +kernel
theorem dX7_issuerKeyOf_8 : decode cX7_issuerKeyOf 8 = .ok (.iconst 0, 1) := by decide +kernel
theorem dX7_issuerKeyOf_9 : decode cX7_issuerKeyOf 9 = .ok (.goto 9, 3) := by decide +kernel
theorem dX7_issuerKeyOf_12 : decode cX7_issuerKeyOf 12 = .ok (.aload_n 0, 1) := by decide +kernel
theorem dX7_issuerKeyOf_13 : decode cX7_issuerKeyOf 13 = .ok (.getfield 25, 3) := by decide +kernel
theorem dX7_issuerKeyOf_16 : decode cX7_issuerKeyOf 16 = .ok (.iload_n 1, 1) := by decide +kernel
theorem dX7_issuerKeyOf_17 : decode cX7_issuerKeyOf 17 = .ok (.iaload, 1) := by decide +kernel
theorem dX7_issuerKeyOf_18 : decode cX7_issuerKeyOf 18 = .ok (.ireturn, 1) := by decide +kernel
theorem dX7_lastDayOf_0 : decode cX7_lastDayOf 0 = .ok (.aload_n 0, 1) := by decide +kernel
theorem dX7_lastDayOf_1 : decode cX7_lastDayOf 1 = .ok (.iload_n 1, 1) := by decide +kernel
theorem dX7_lastDayOf_2 : decode cX7_lastDayOf 2 = .ok (.invokevirtual 99, 3) := by decide +kernel
theorem dX7_lastDayOf_5 : decode cX7_lastDayOf 5 = .ok (.ifCond .eq 7, 3) := by decide +kernel
theorem dX7_lastDayOf_8 : decode cX7_lastDayOf 8 = .ok (.iconst 0, 1) := by decide +kernel
theorem dX7_lastDayOf_9 : decode cX7_lastDayOf 9 = .ok (.goto 9, 3) := by decide +kernel
theorem dX7_lastDayOf_12 : decode cX7_lastDayOf 12 = .ok (.aload_n 0, 1) := by decide +kernel
theorem dX7_lastDayOf_13 : decode cX7_lastDayOf 13 = .ok (.getfield 19, 3) := by decide +kernel
theorem dX7_lastDayOf_16 : decode cX7_lastDayOf 16 = .ok (.iload_n 1, 1) := by decide +kernel
theorem dX7_lastDayOf_17 : decode cX7_lastDayOf 17 = .ok (.iaload, 1) := by decide +kernel
theorem dX7_lastDayOf_18 : decode cX7_lastDayOf 18 = .ok (.ireturn, 1) := by decide +kernel
theorem dX7_kindOf_0 : decode cX7_kindOf 0 = .ok (.aload_n 0, 1) := by decide +kernel
theorem dX7_kindOf_1 : decode cX7_kindOf 1 = .ok (.iload_n 1, 1) := by decide +kernel
theorem dX7_kindOf_2 : decode cX7_kindOf 2 = .ok (.invokevirtual 99, 3) := by decide +kernel
theorem dX7_kindOf_5 : decode cX7_kindOf 5 = .ok (.ifCond .eq 7, 3) := by decide +kernel
theorem dX7_kindOf_8 : decode cX7_kindOf 8 = .ok (.iconst 0, 1) := by decide +kernel
theorem dX7_kindOf_9 : decode cX7_kindOf 9 = .ok (.goto 33, 3) := by decide +kernel
theorem dX7_kindOf_12 : decode cX7_kindOf 12 = .ok (.aload_n 0, 1) := by decide +kernel
theorem dX7_kindOf_13 : decode cX7_kindOf 13 = .ok (.getfield 44, 3) := by decide +kernel
theorem dX7_kindOf_16 : decode cX7_kindOf 16 = .ok (.iload_n 1, 1) := by decide +kernel
theorem dX7_kindOf_17 : decode cX7_kindOf 17 = .ok (.baload, 1) := by decide +kernel
theorem dX7_kindOf_18 : decode cX7_kindOf 18 = .ok (.ifCond .eq 8, 3) := by decide +kernel
theorem dX7_kindOf_21 : decode cX7_kindOf 21 = .ok (.bipush 114, 2) := by decide +kernel
theorem dX7_kindOf_23 : decode cX7_kindOf 23 = .ok (.goto 19, 3) := by decide +kernel
theorem dX7_kindOf_26 : decode cX7_kindOf 26 = .ok (.aload_n 0, 1) := by decide +kernel
theorem dX7_kindOf_27 : decode cX7_kindOf 27 = .ok (.getfield 40, 3) := by decide +kernel
theorem dX7_kindOf_30 : decode cX7_kindOf 30 = .ok (.iload_n 1, 1) := by decide +kernel
theorem dX7_kindOf_31 : decode cX7_kindOf 31 = .ok (.baload, 1) := by decide +kernel
theorem dX7_kindOf_32 : decode cX7_kindOf 32 = .ok (.ifCond .eq 8, 3) := by decide +kernel
theorem dX7_kindOf_35 : decode cX7_kindOf 35 = .ok (.bipush 97, 2) := by decide +kernel
theorem dX7_kindOf_37 : decode cX7_kindOf 37 = .ok (.goto 5, 3) := by decide +kernel
theorem dX7_kindOf_40 : decode cX7_kindOf 40 = .ok (.bipush 101, 2) := by decide +kernel
theorem dX7_kindOf_42 : decode cX7_kindOf 42 = .ok (.ireturn, 1) := by decide +kernel
theorem dX7_isBelow_0 : decode cX7_isBelow 0 = .ok (.aload_n 0, 1) := by decide +kernel
theorem dX7_isBelow_1 : decode cX7_isBelow 1 = .ok (.iload_n 1, 1) := by decide +kernel
theorem dX7_isBelow_2 : decode cX7_isBelow 2 = .ok (.invokestatic 85, 3) := by decide +kernel
theorem dX7_isBelow_5 : decode cX7_isBelow 5 = .ok (.ifCond .eq 10, 3) := by decide +kernel
theorem dX7_isBelow_8 : decode cX7_isBelow 8 = .ok (.iload_n 2, 1) := by decide +kernel
theorem dX7_isBelow_9 : decode cX7_isBelow 9 = .ok (.invokestatic 85, 3) := by decide +kernel
theorem dX7_isBelow_12 : decode cX7_isBelow 12 = .ok (.ifCond .ne 7, 3) := by decide +kernel
theorem dX7_isBelow_15 : decode cX7_isBelow 15 = .ok (.iconst 1, 1) := by decide +kernel
theorem dX7_isBelow_16 : decode cX7_isBelow 16 = .ok (.goto 4, 3) := by decide +kernel
theorem dX7_isBelow_19 : decode cX7_isBelow 19 = .ok (.iconst 0, 1) := by decide +kernel
theorem dX7_isBelow_20 : decode cX7_isBelow 20 = .ok (.iconst 1, 1) := by decide +kernel
theorem dX7_isBelow_21 : decode cX7_isBelow 21 = .ok (.invokevirtual 78, 3) := by decide +kernel
theorem dX7_isBelow_24 : decode cX7_isBelow 24 = .ok (.ifCond .ne 15, 3) := by decide +kernel
theorem dX7_isBelow_27 : decode cX7_isBelow 27 = .ok (.iload_n 1, 1) := by decide +kernel
theorem dX7_isBelow_28 : decode cX7_isBelow 28 = .ok (.iload_n 2, 1) := by decide +kernel
theorem dX7_isBelow_29 : decode cX7_isBelow 29 = .ok (.invokestatic 116, 3) := by decide +kernel
theorem dX7_isBelow_32 : decode cX7_isBelow 32 = .ok (.ifCond .eq 7, 3) := by decide +kernel
theorem dX7_isBelow_35 : decode cX7_isBelow 35 = .ok (.iconst 1, 1) := by decide +kernel
theorem dX7_isBelow_36 : decode cX7_isBelow 36 = .ok (.goto 4, 3) := by decide +kernel
theorem dX7_isBelow_39 : decode cX7_isBelow 39 = .ok (.iconst 0, 1) := by decide +kernel
theorem dX7_isBelow_40 : decode cX7_isBelow 40 = .ok (.ireturn, 1) := by decide +kernel
theorem dX7_isWrong_0 : decode cX7_isWrong 0 = .ok (.aload_n 0, 1) := by decide +kernel
theorem dX7_isWrong_1 : decode cX7_isWrong 1 = .ok (.iload_n 1, 1) := by decide +kernel
theorem dX7_isWrong_2 : decode cX7_isWrong 2 = .ok (.invokevirtual 99, 3) := by decide +kernel
theorem dX7_isWrong_5 : decode cX7_isWrong 5 = .ok (.ifCond .ne 20, 3) := by decide +kernel
theorem dX7_isWrong_8 : decode cX7_isWrong 8 = .ok (.aload_n 0, 1) := by decide +kernel
theorem dX7_isWrong_9 : decode cX7_isWrong 9 = .ok (.iload_n 2, 1) := by decide +kernel
theorem dX7_isWrong_10 : decode cX7_isWrong 10 = .ok (.ifCond .ge 7, 3) := by decide +kernel
theorem dX7_isWrong_13 : decode cX7_isWrong 13 = .ok (.iconst 1, 1) := by decide +kernel
theorem dX7_isWrong_14 : decode cX7_isWrong 14 = .ok (.goto 4, 3) := by decide +kernel
theorem dX7_isWrong_17 : decode cX7_isWrong 17 = .ok (.iconst 0, 1) := by decide +kernel
theorem dX7_isWrong_18 : decode cX7_isWrong 18 = .ok (.iconst 2, 1) := by decide +kernel
theorem dX7_isWrong_19 : decode cX7_isWrong 19 = .ok (.invokevirtual 78, 3) := by decide +kernel
theorem dX7_isWrong_22 : decode cX7_isWrong 22 = .ok (.ifCond .eq 7, 3) := by decide +kernel
theorem dX7_isWrong_25 : decode cX7_isWrong 25 = .ok (.iconst 1, 1) := by decide +kernel
theorem dX7_isWrong_26 : decode cX7_isWrong 26 = .ok (.goto 4, 3) := by decide +kernel
theorem dX7_isWrong_29 : decode cX7_isWrong 29 = .ok (.iconst 0, 1) := by decide +kernel
theorem dX7_isWrong_30 : decode cX7_isWrong 30 = .ok (.ireturn, 1) := by decide +kernel
theorem dX7_isRevoked_0 : decode cX7_isRevoked 0 = .ok (.aload_n 0, 1) := by decide +kernel
theorem dX7_isRevoked_1 : decode cX7_isRevoked 1 = .ok (.iload_n 1, 1) := by decide +kernel
theorem dX7_isRevoked_2 : decode cX7_isRevoked 2 = .ok (.iload_n 2, 1) := by decide +kernel
theorem dX7_isRevoked_3 : decode cX7_isRevoked 3 = .ok (.invokevirtual 120, 3) := by decide +kernel
theorem dX7_isRevoked_6 : decode cX7_isRevoked 6 = .ok (.ifCond .ne 16, 3) := by decide +kernel
theorem dX7_isRevoked_9 : decode cX7_isRevoked 9 = .ok (.aload_n 0, 1) := by decide +kernel
theorem dX7_isRevoked_10 : decode cX7_isRevoked 10 = .ok (.iload_n 1, 1) := by decide +kernel
theorem dX7_isRevoked_11 : decode cX7_isRevoked 11 = .ok (.iload_n 2, 1) := by decide +kernel
theorem dX7_isRevoked_12 : decode cX7_isRevoked 12 = .ok (.invokevirtual 123, 3) := by decide +kernel
theorem dX7_isRevoked_15 : decode cX7_isRevoked 15 = .ok (.ifCond .eq 7, 3) := by decide +kernel
theorem dX7_isRevoked_18 : decode cX7_isRevoked 18 = .ok (.iconst 1, 1) := by decide +kernel
theorem dX7_isRevoked_19 : decode cX7_isRevoked 19 = .ok (.goto 4, 3) := by decide +kernel
theorem dX7_isRevoked_22 : decode cX7_isRevoked 22 = .ok (.iconst 0, 1) := by decide +kernel
theorem dX7_isRevoked_23 : decode cX7_isRevoked 23 = .ok (.ireturn, 1) := by decide +kernel
theorem dX7_isRevokedByLists_0 : decode cX7_isRevokedByLists 0 = .ok (.aload_n 0, 1) := by decide +kernel
theorem dX7_isRevokedByLists_1 : decode cX7_isRevokedByLists 1 = .ok (.iload_n 1, 1) := by decide +kernel
theorem dX7_isRevokedByLists_2 : decode cX7_isRevokedByLists 2 = .ok (.iload_n 2, 1) := by decide +kernel
theorem dX7_isRevokedByLists_3 : decode cX7_isRevokedByLists 3 = .ok (.invokevirtual 126, 3) := by decide +kernel
theorem dX7_isRevokedByLists_6 : decode cX7_isRevokedByLists 6 = .ok (.ireturn, 1) := by decide +kernel
theorem dX7_isCandidate_0 : decode cX7_isCandidate 0 = .ok (.iload_n 2, 1) := by decide +kernel
theorem dX7_isCandidate_1 : decode cX7_isCandidate 1 = .ok (.iload_n 1, 1) := by decide +kernel
theorem dX7_isCandidate_2 : decode cX7_isCandidate 2 = .ok (.if_icmp .eq 37, 3) := by decide +kernel
theorem dX7_isCandidate_5 : decode cX7_isCandidate 5 = .ok (.aload_n 0, 1) := by decide +kernel
theorem dX7_isCandidate_6 : decode cX7_isCandidate 6 = .ok (.getfield 13, 3) := by decide +kernel
theorem dX7_isCandidate_9 : decode cX7_isCandidate 9 = .ok (.iload_n 2, 1) := by decide +kernel
theorem dX7_isCandidate_10 : decode cX7_isCandidate 10 = .ok (.iaload, 1) := by decide +kernel
theorem dX7_isCandidate_11 : decode cX7_isCandidate 11 = .ok (.aload_n 0, 1) := by decide +kernel
theorem dX7_isCandidate_12 : decode cX7_isCandidate 12 = .ok (.getfield 25, 3) := by decide +kernel
theorem dX7_isCandidate_15 : decode cX7_isCandidate 15 = .ok (.iload_n 1, 1) := by decide +kernel
theorem dX7_isCandidate_16 : decode cX7_isCandidate 16 = .ok (.iaload, 1) := by decide +kernel
theorem dX7_isCandidate_17 : decode cX7_isCandidate 17 = .ok (.if_icmp .ne 22, 3) := by decide +kernel
theorem dX7_isCandidate_20 : decode cX7_isCandidate 20 = .ok (.aload_n 0, 1) := by decide +kernel
theorem dX7_isCandidate_21 : decode cX7_isCandidate 21 = .ok (.getfield 9, 3) := by decide +kernel
theorem dX7_isCandidate_24 : decode cX7_isCandidate 24 = .ok (.iload_n 2, 1) := by decide +kernel
theorem dX7_isCandidate_25 : decode cX7_isCandidate 25 = .ok (.iaload, 1) := by decide +kernel
theorem dX7_isCandidate_26 : decode cX7_isCandidate 26 = .ok (.aload_n 0, 1) := by decide +kernel
theorem dX7_isCandidate_27 : decode cX7_isCandidate 27 = .ok (.getfield 22, 3) := by decide +kernel
theorem dX7_isCandidate_30 : decode cX7_isCandidate 30 = .ok (.iload_n 1, 1) := by decide +kernel
theorem dX7_isCandidate_31 : decode cX7_isCandidate 31 = .ok (.iaload, 1) := by decide +kernel
theorem dX7_isCandidate_32 : decode cX7_isCandidate 32 = .ok (.if_icmp .ne 7, 3) := by decide +kernel
theorem dX7_isCandidate_35 : decode cX7_isCandidate 35 = .ok (.iconst 1, 1) := by decide +kernel
theorem dX7_isCandidate_36 : decode cX7_isCandidate 36 = .ok (.goto 4, 3) := by decide +kernel
theorem dX7_isCandidate_39 : decode cX7_isCandidate 39 = .ok (.iconst 0, 1) := by decide +kernel
theorem dX7_isCandidate_40 : decode cX7_isCandidate 40 = .ok (.ireturn, 1) := by decide +kernel
theorem dX7_candidates_0 : decode cX7_candidates 0 = .ok (.aload_n 0, 1) := by decide +kernel
theorem dX7_candidates_1 : decode cX7_candidates 1 = .ok (.iload_n 1, 1) := by decide +kernel
theorem dX7_candidates_2 : decode cX7_candidates 2 = .ok (.invokevirtual 99, 3) := by decide +kernel
theorem dX7_candidates_5 : decode cX7_candidates 5 = .ok (.ifCond .eq 5, 3) := by decide +kernel
theorem dX7_candidates_8 : decode cX7_candidates 8 = .ok (.iconst 0, 1) := by decide +kernel
theorem dX7_candidates_9 : decode cX7_candidates 9 = .ok (.ireturn, 1) := by decide +kernel
theorem dX7_candidates_10 : decode cX7_candidates 10 = .ok (.iconst 0, 1) := by decide +kernel
theorem dX7_candidates_11 : decode cX7_candidates 11 = .ok (.istore_n 2, 1) := by decide +kernel
theorem dX7_candidates_12 : decode cX7_candidates 12 = .ok (.iconst 0, 1) := by decide +kernel
theorem dX7_candidates_13 : decode cX7_candidates 13 = .ok (.istore_n 3, 1) := by decide +kernel
theorem dX7_candidates_14 : decode cX7_candidates 14 = .ok (.iload_n 3, 1) := by decide +kernel
theorem dX7_candidates_15 : decode cX7_candidates 15 = .ok (.aload_n 0, 1) := by decide +kernel
theorem dX7_candidates_16 : decode cX7_candidates 16 = .ok (.getfield 71, 3) := by decide +kernel
theorem dX7_candidates_19 : decode cX7_candidates 19 = .ok (.if_icmp .ge 26, 3) := by decide +kernel
theorem dX7_candidates_22 : decode cX7_candidates 22 = .ok (.iload_n 2, 1) := by decide +kernel
theorem dX7_candidates_23 : decode cX7_candidates 23 = .ok (.aload_n 0, 1) := by decide +kernel
theorem dX7_candidates_24 : decode cX7_candidates 24 = .ok (.iload_n 1, 1) := by decide +kernel
theorem dX7_candidates_25 : decode cX7_candidates 25 = .ok (.iload_n 3, 1) := by decide +kernel
theorem dX7_candidates_26 : decode cX7_candidates 26 = .ok (.invokevirtual 129, 3) := by decide +kernel
theorem dX7_candidates_29 : decode cX7_candidates 29 = .ok (.ifCond .eq 7, 3) := by decide +kernel
theorem dX7_candidates_32 : decode cX7_candidates 32 = .ok (.iconst 1, 1) := by decide +kernel
theorem dX7_candidates_33 : decode cX7_candidates 33 = .ok (.goto 4, 3) := by decide +kernel
theorem dX7_candidates_36 : decode cX7_candidates 36 = .ok (.iconst 0, 1) := by decide +kernel
theorem dX7_candidates_37 : decode cX7_candidates 37 = .ok (.iadd, 1) := by decide +kernel
theorem dX7_candidates_38 : decode cX7_candidates 38 = .ok (.istore_n 2, 1) := by decide +kernel
theorem dX7_candidates_39 : decode cX7_candidates 39 = .ok (.iinc 3 1, 3) := by decide +kernel
theorem dX7_candidates_42 : decode cX7_candidates 42 = .ok (.goto (-28), 3) := by decide +kernel
theorem dX7_candidates_45 : decode cX7_candidates 45 = .ok (.iload_n 2, 1) := by decide +kernel
theorem dX7_candidates_46 : decode cX7_candidates 46 = .ok (.ireturn, 1) := by decide +kernel
theorem dX7_candidate_0 : decode cX7_candidate 0 = .ok (.iconst 0, 1) := by decide +kernel
theorem dX7_candidate_1 : decode cX7_candidate 1 = .ok (.istore_n 3, 1) := by decide +kernel
theorem dX7_candidate_2 : decode cX7_candidate 2 = .ok (.iconst 0, 1) := by decide +kernel
theorem dX7_candidate_3 : decode cX7_candidate 3 = .ok (.istore 4, 2) := by decide +kernel
theorem dX7_candidate_5 : decode cX7_candidate 5 = .ok (.iload 4, 2) := by decide +kernel
theorem dX7_candidate_7 : decode cX7_candidate 7 = .ok (.aload_n 0, 1) := by decide +kernel
theorem dX7_candidate_8 : decode cX7_candidate 8 = .ok (.getfield 71, 3) := by decide +kernel
theorem dX7_candidate_11 : decode cX7_candidate 11 = .ok (.if_icmp .ge 30, 3) := by decide +kernel
theorem dX7_candidate_14 : decode cX7_candidate 14 = .ok (.aload_n 0, 1) := by decide +kernel
theorem dX7_candidate_15 : decode cX7_candidate 15 = .ok (.iload_n 1, 1) := by decide +kernel
theorem dX7_candidate_16 : decode cX7_candidate 16 = .ok (.iload 4, 2) := by decide +kernel
theorem dX7_candidate_18 : decode cX7_candidate 18 = .ok (.invokevirtual 129, 3) := by decide +kernel
theorem dX7_candidate_21 : decode cX7_candidate 21 = .ok (.ifCond .eq 14, 3) := by decide +kernel
theorem dX7_candidate_24 : decode cX7_candidate 24 = .ok (.iload_n 3, 1) := by decide +kernel
theorem dX7_candidate_25 : decode cX7_candidate 25 = .ok (.iload_n 2, 1) := by decide +kernel
theorem dX7_candidate_26 : decode cX7_candidate 26 = .ok (.if_icmp .ne 6, 3) := by decide +kernel
theorem dX7_candidate_29 : decode cX7_candidate 29 = .ok (.iload 4, 2) := by decide +kernel
theorem dX7_candidate_31 : decode cX7_candidate 31 = .ok (.ireturn, 1) := by decide +kernel
theorem dX7_candidate_32 : decode cX7_candidate 32 = .ok (.iinc 3 1, 3) := by decide +kernel
theorem dX7_candidate_35 : decode cX7_candidate 35 = .ok (.iinc 4 1, 3) := by decide +kernel
theorem dX7_candidate_38 : decode cX7_candidate 38 = .ok (.goto (-33), 3) := by decide +kernel
theorem dX7_candidate_41 : decode cX7_candidate 41 = .ok (.iconst (-1), 1) := by decide +kernel
theorem dX7_candidate_42 : decode cX7_candidate 42 = .ok (.ireturn, 1) := by decide +kernel
theorem dX7_candidateAt_0 : decode cX7_candidateAt 0 = .ok (.aload_n 0, 1) := by decide +kernel
theorem dX7_candidateAt_1 : decode cX7_candidateAt 1 = .ok (.iload_n 1, 1) := by decide +kernel
theorem dX7_candidateAt_2 : decode cX7_candidateAt 2 = .ok (.invokevirtual 99, 3) := by decide +kernel
theorem dX7_candidateAt_5 : decode cX7_candidateAt 5 = .ok (.ifCond .eq 5, 3) := by decide +kernel
theorem dX7_candidateAt_8 : decode cX7_candidateAt 8 = .ok (.iconst 0, 1) := by decide +kernel
theorem dX7_candidateAt_9 : decode cX7_candidateAt 9 = .ok (.ireturn, 1) := by decide +kernel
theorem dX7_candidateAt_10 : decode cX7_candidateAt 10 = .ok (.aload_n 0, 1) := by decide +kernel
theorem dX7_candidateAt_11 : decode cX7_candidateAt 11 = .ok (.iload_n 1, 1) := by decide +kernel
theorem dX7_candidateAt_12 : decode cX7_candidateAt 12 = .ok (.iload_n 2, 1) := by decide +kernel
theorem dX7_candidateAt_13 : decode cX7_candidateAt 13 = .ok (.invokevirtual 132, 3) := by decide +kernel
theorem dX7_candidateAt_16 : decode cX7_candidateAt 16 = .ok (.istore_n 3, 1) := by decide +kernel
theorem dX7_candidateAt_17 : decode cX7_candidateAt 17 = .ok (.aload_n 0, 1) := by decide +kernel
theorem dX7_candidateAt_18 : decode cX7_candidateAt 18 = .ok (.iload_n 3, 1) := by decide +kernel
theorem dX7_candidateAt_19 : decode cX7_candidateAt 19 = .ok (.ifCond .ge 7, 3) := by decide +kernel
theorem dX7_candidateAt_22 : decode cX7_candidateAt 22 = .ok (.iconst 1, 1) := by decide +kernel
theorem dX7_candidateAt_23 : decode cX7_candidateAt 23 = .ok (.goto 4, 3) := by decide +kernel
theorem dX7_candidateAt_26 : decode cX7_candidateAt 26 = .ok (.iconst 0, 1) := by decide +kernel
theorem dX7_candidateAt_27 : decode cX7_candidateAt 27 = .ok (.iconst 2, 1) := by decide +kernel
theorem dX7_candidateAt_28 : decode cX7_candidateAt 28 = .ok (.invokevirtual 78, 3) := by decide +kernel
theorem dX7_candidateAt_31 : decode cX7_candidateAt 31 = .ok (.ifCond .eq 7, 3) := by decide +kernel
theorem dX7_candidateAt_34 : decode cX7_candidateAt 34 = .ok (.iconst 0, 1) := by decide +kernel
theorem dX7_candidateAt_35 : decode cX7_candidateAt 35 = .ok (.goto 4, 3) := by decide +kernel
theorem dX7_candidateAt_38 : decode cX7_candidateAt 38 = .ok (.iload_n 3, 1) := by decide +kernel
theorem dX7_candidateAt_39 : decode cX7_candidateAt 39 = .ok (.ireturn, 1) := by decide +kernel
theorem dX7_fitsNames_0 : decode cX7_fitsNames 0 = .ok (.iconst 1, 1) := by decide +kernel
theorem dX7_fitsNames_1 : decode cX7_fitsNames 1 = .ok (.istore 4, 2) := by decide +kernel
theorem dX7_fitsNames_3 : decode cX7_fitsNames 3 = .ok (.iconst 0, 1) := by decide +kernel
theorem dX7_fitsNames_4 : decode cX7_fitsNames 4 = .ok (.istore 5, 2) := by decide +kernel
theorem dX7_fitsNames_6 : decode cX7_fitsNames 6 = .ok (.iload 5, 2) := by decide +kernel
theorem dX7_fitsNames_8 : decode cX7_fitsNames 8 = .ok (.iload_n 2, 1) := by decide +kernel
theorem dX7_fitsNames_9 : decode cX7_fitsNames 9 = .ok (.if_icmp .ge 89, 3) := by decide +kernel
theorem dX7_fitsNames_12 : decode cX7_fitsNames 12 = .ok (.iload 4, 2) := by decide +kernel
theorem dX7_fitsNames_14 : decode cX7_fitsNames 14 = .ok (.aload_n 0, 1) := by decide +kernel
theorem dX7_fitsNames_15 : decode cX7_fitsNames 15 = .ok (.getfield 31, 3) := by decide +kernel
theorem dX7_fitsNames_18 : decode cX7_fitsNames 18 = .ok (.iload_n 3, 1) := by decide +kernel
theorem dX7_fitsNames_19 : decode cX7_fitsNames 19 = .ok (.iaload, 1) := by decide +kernel
theorem dX7_fitsNames_20 : decode cX7_fitsNames 20 = .ok (.ifCond .eq 24, 3) := by decide +kernel
theorem dX7_fitsNames_23 : decode cX7_fitsNames 23 = .ok (.aload_n 0, 1) := by decide +kernel
theorem dX7_fitsNames_24 : decode cX7_fitsNames 24 = .ok (.getfield 9, 3) := by decide +kernel
theorem dX7_fitsNames_27 : decode cX7_fitsNames 27 = .ok (.aload_n 1, 1) := by decide +kernel
theorem dX7_fitsNames_28 : decode cX7_fitsNames 28 = .ok (.iload 5, 2) := by decide +kernel
theorem dX7_fitsNames_30 : decode cX7_fitsNames 30 = .ok (.iaload, 1) := by decide +kernel
theorem dX7_fitsNames_31 : decode cX7_fitsNames 31 = .ok (.iaload, 1) := by decide +kernel
theorem dX7_fitsNames_32 : decode cX7_fitsNames 32 = .ok (.aload_n 0, 1) := by decide +kernel
theorem dX7_fitsNames_33 : decode cX7_fitsNames 33 = .ok (.getfield 31, 3) := by decide +kernel
theorem dX7_fitsNames_36 : decode cX7_fitsNames 36 = .ok (.iload_n 3, 1) := by decide +kernel
theorem dX7_fitsNames_37 : decode cX7_fitsNames 37 = .ok (.iaload, 1) := by decide +kernel
theorem dX7_fitsNames_38 : decode cX7_fitsNames 38 = .ok (.invokestatic 116, 3) := by decide +kernel
theorem dX7_fitsNames_41 : decode cX7_fitsNames 41 = .ok (.ifCond .eq 7, 3) := by decide +kernel
theorem dX7_fitsNames_44 : decode cX7_fitsNames 44 = .ok (.iconst 1, 1) := by decide +kernel
theorem dX7_fitsNames_45 : decode cX7_fitsNames 45 = .ok (.goto 4, 3) := by decide +kernel
theorem dX7_fitsNames_48 : decode cX7_fitsNames 48 = .ok (.iconst 0, 1) := by decide +kernel
theorem dX7_fitsNames_49 : decode cX7_fitsNames 49 = .ok (.iand, 1) := by decide +kernel
theorem dX7_fitsNames_50 : decode cX7_fitsNames 50 = .ok (.istore 4, 2) := by decide +kernel
theorem dX7_fitsNames_52 : decode cX7_fitsNames 52 = .ok (.iload 4, 2) := by decide +kernel
