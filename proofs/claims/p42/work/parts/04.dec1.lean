theorem dX0_init_0 : decode cX0_init 0 = .ok (.aload_n 0, 1) := by decide +kernel
theorem dX0_init_1 : decode cX0_init 1 = .ok (.invokespecial 3, 3) := by decide +kernel
theorem dX0_init_4 : decode cX0_init 4 = .ok (.aload_n 0, 1) := by decide +kernel
theorem dX0_init_5 : decode cX0_init 5 = .ok (.iload_n 1, 1) := by decide +kernel
theorem dX0_init_6 : decode cX0_init 6 = .ok (.putfield 9, 3) := by decide +kernel
theorem dX0_init_9 : decode cX0_init 9 = .ok (.aload_n 0, 1) := by decide +kernel
theorem dX0_init_10 : decode cX0_init 10 = .ok (.aload_n 2, 1) := by decide +kernel
theorem dX0_init_11 : decode cX0_init 11 = .ok (.putfield 15, 3) := by decide +kernel
theorem dX0_init_14 : decode cX0_init 14 = .ok (.aload_n 0, 1) := by decide +kernel
theorem dX0_init_15 : decode cX0_init 15 = .ok (.aload_n 3, 1) := by decide +kernel
theorem dX0_init_16 : decode cX0_init 16 = .ok (.putfield 19, 3) := by decide +kernel
theorem dX0_init_19 : decode cX0_init 19 = .ok (.aload_n 0, 1) := by decide +kernel
theorem dX0_init_20 : decode cX0_init 20 = .ok (.iload 4, 2) := by decide +kernel
theorem dX0_init_22 : decode cX0_init 22 = .ok (.putfield 22, 3) := by decide +kernel
theorem dX0_init_25 : decode cX0_init 25 = .ok (.aload_n 0, 1) := by decide +kernel
theorem dX0_init_26 : decode cX0_init 26 = .ok (.iload 5, 2) := by decide +kernel
theorem dX0_init_28 : decode cX0_init 28 = .ok (.putfield 25, 3) := by decide +kernel
theorem dX0_init_31 : decode cX0_init 31 = .ok (.aload_n 0, 1) := by decide +kernel
theorem dX0_init_32 : decode cX0_init 32 = .ok (.iload 6, 2) := by decide +kernel
theorem dX0_init_34 : decode cX0_init 34 = .ok (.putfield 28, 3) := by decide +kernel
theorem dX0_init_37 : decode cX0_init 37 = .ok (.aload_n 0, 1) := by decide +kernel
theorem dX0_init_38 : decode cX0_init 38 = .ok (.iconst 0, 1) := by decide +kernel
theorem dX0_init_39 : decode cX0_init 39 = .ok (.putfield 31, 3) := by decide +kernel
theorem dX0_init_42 : decode cX0_init 42 = .ok (.aload_n 0, 1) := by decide +kernel
theorem dX0_init_43 : decode cX0_init 43 = .ok (.iconst 0, 1) := by decide +kernel
theorem dX0_init_44 : decode cX0_init 44 = .ok (.putfield 34, 3) := by decide +kernel
theorem dX0_init_47 : decode cX0_init 47 = .ok (.aload_n 0, 1) := by decide +kernel
theorem dX0_init_48 : decode cX0_init 48 = .ok (.iconst 0, 1) := by decide +kernel
theorem dX0_init_49 : decode cX0_init 49 = .ok (.putfield 37, 3) := by decide +kernel
theorem dX0_init_52 : decode cX0_init 52 = .ok (.aload_n 0, 1) := by decide +kernel
theorem dX0_init_53 : decode cX0_init 53 = .ok (.iconst 0, 1) := by decide +kernel
theorem dX0_init_54 : decode cX0_init 54 = .ok (.putfield 41, 3) := by decide +kernel
theorem dX0_init_57 : decode cX0_init 57 = .ok (.aload_n 0, 1) := by decide +kernel
theorem dX0_init_58 : decode cX0_init 58 = .ok (.iconst (-1), 1) := by decide +kernel
theorem dX0_init_59 : decode cX0_init 59 = .ok (.putfield 44, 3) := by decide +kernel
theorem dX0_init_62 : decode cX0_init 62 = .ok (.return_, 1) := by decide +kernel
theorem dX0_isRoot_0 : decode cX0_isRoot 0 = .ok (.aload_n 0, 1) := by decide +kernel
theorem dX0_isRoot_1 : decode cX0_isRoot 1 = .ok (.getfield 15, 3) := by decide +kernel
theorem dX0_isRoot_4 : decode cX0_isRoot 4 = .ok (.aload_n 0, 1) := by decide +kernel
theorem dX0_isRoot_5 : decode cX0_isRoot 5 = .ok (.getfield 19, 3) := by decide +kernel
theorem dX0_isRoot_8 : decode cX0_isRoot 8 = .ok (.if_acmp .ne 7, 3) := by decide +kernel
theorem dX0_isRoot_11 : decode cX0_isRoot 11 = .ok (.iconst 1, 1) := by decide +kernel
theorem dX0_isRoot_12 : decode cX0_isRoot 12 = .ok (.goto 4, 3) := by decide +kernel
theorem dX0_isRoot_15 : decode cX0_isRoot 15 = .ok (.iconst 0, 1) := by decide +kernel
theorem dX0_isRoot_16 : decode cX0_isRoot 16 = .ok (.ireturn, 1) := by decide +kernel
theorem dX0_isAuthority_0 : decode cX0_isAuthority 0 = .ok (.aload_n 0, 1) := by decide +kernel
theorem dX0_isAuthority_1 : decode cX0_isAuthority 1 = .ok (.getfield 28, 3) := by decide +kernel
theorem dX0_isAuthority_4 : decode cX0_isAuthority 4 = .ok (.iconst (-1), 1) := by decide +kernel
theorem dX0_isAuthority_5 : decode cX0_isAuthority 5 = .ok (.if_icmp .eq 7, 3) := by decide +kernel
theorem dX0_isAuthority_8 : decode cX0_isAuthority 8 = .ok (.iconst 1, 1) := by decide +kernel
theorem dX0_isAuthority_9 : decode cX0_isAuthority 9 = .ok (.goto 4, 3) := by decide +kernel
theorem dX0_isAuthority_12 : decode cX0_isAuthority 12 = .ok (.iconst 0, 1) := by decide +kernel
theorem dX0_isAuthority_13 : decode cX0_isAuthority 13 = .ok (.ireturn, 1) := by decide +kernel
theorem dX0_isValidOn_0 : decode cX0_isValidOn 0 = .ok (.aload_n 0, 1) := by decide +kernel
theorem dX0_isValidOn_1 : decode cX0_isValidOn 1 = .ok (.getfield 22, 3) := by decide +kernel
theorem dX0_isValidOn_4 : decode cX0_isValidOn 4 = .ok (.iload_n 1, 1) := by decide +kernel
theorem dX0_isValidOn_5 : decode cX0_isValidOn 5 = .ok (.if_icmp .gt 15, 3) := by decide +kernel
theorem dX0_isValidOn_8 : decode cX0_isValidOn 8 = .ok (.iload_n 1, 1) := by decide +kernel
theorem dX0_isValidOn_9 : decode cX0_isValidOn 9 = .ok (.aload_n 0, 1) := by decide +kernel
theorem dX0_isValidOn_10 : decode cX0_isValidOn 10 = .ok (.getfield 25, 3) := by decide +kernel
theorem dX0_isValidOn_13 : decode cX0_isValidOn 13 = .ok (.if_icmp .gt 7, 3) := by decide +kernel
theorem dX0_isValidOn_16 : decode cX0_isValidOn 16 = .ok (.iconst 1, 1) := by decide +kernel
theorem dX0_isValidOn_17 : decode cX0_isValidOn 17 = .ok (.goto 4, 3) := by decide +kernel
theorem dX0_isValidOn_20 : decode cX0_isValidOn 20 = .ok (.iconst 0, 1) := by decide +kernel
theorem dX0_isValidOn_21 : decode cX0_isValidOn 21 = .ok (.ireturn, 1) := by decide +kernel
theorem dX0_isOutOfForceOn_0 : decode cX0_isOutOfForceOn 0 = .ok (.aload_n 0, 1) := by decide +kernel
theorem dX0_isOutOfForceOn_1 : decode cX0_isOutOfForceOn 1 = .ok (.getfield 44, 3) := by decide +kernel
theorem dX0_isOutOfForceOn_4 : decode cX0_isOutOfForceOn 4 = .ok (.iconst (-1), 1) := by decide +kernel
theorem dX0_isOutOfForceOn_5 : decode cX0_isOutOfForceOn 5 = .ok (.if_icmp .eq 15, 3) := by decide +kernel
theorem dX0_isOutOfForceOn_8 : decode cX0_isOutOfForceOn 8 = .ok (.aload_n 0, 1) := by decide +kernel
theorem dX0_isOutOfForceOn_9 : decode cX0_isOutOfForceOn 9 = .ok (.getfield 44, 3) := by decide +kernel
theorem dX0_isOutOfForceOn_12 : decode cX0_isOutOfForceOn 12 = .ok (.iload_n 1, 1) := by decide +kernel
theorem dX0_isOutOfForceOn_13 : decode cX0_isOutOfForceOn 13 = .ok (.if_icmp .gt 7, 3) := by decide +kernel
theorem dX0_isOutOfForceOn_16 : decode cX0_isOutOfForceOn 16 = .ok (.iconst 1, 1) := by decide +kernel
theorem dX0_isOutOfForceOn_17 : decode cX0_isOutOfForceOn 17 = .ok (.goto 4, 3) := by decide +kernel
theorem dX0_isOutOfForceOn_20 : decode cX0_isOutOfForceOn 20 = .ok (.iconst 0, 1) := by decide +kernel
theorem dX0_isOutOfForceOn_21 : decode cX0_isOutOfForceOn 21 = .ok (.ireturn, 1) := by decide +kernel
theorem dX0_refusalOn_0 : decode cX0_refusalOn 0 = .ok (.aload_n 0, 1) := by decide +kernel
theorem dX0_refusalOn_1 : decode cX0_refusalOn 1 = .ok (.iload_n 1, 1) := by decide +kernel
theorem dX0_refusalOn_2 : decode cX0_refusalOn 2 = .ok (.invokevirtual 47, 3) := by decide +kernel
theorem dX0_refusalOn_5 : decode cX0_refusalOn 5 = .ok (.ifCond .ne 6, 3) := by decide +kernel
theorem dX0_refusalOn_8 : decode cX0_refusalOn 8 = .ok (.bipush 116, 2) := by decide +kernel
theorem dX0_refusalOn_10 : decode cX0_refusalOn 10 = .ok (.ireturn, 1) := by decide +kernel
theorem dX0_refusalOn_11 : decode cX0_refusalOn 11 = .ok (.aload_n 0, 1) := by decide +kernel
theorem dX0_refusalOn_12 : decode cX0_refusalOn 12 = .ok (.iload_n 1, 1) := by decide +kernel
theorem dX0_refusalOn_13 : decode cX0_refusalOn 13 = .ok (.invokevirtual 51, 3) := by decide +kernel
theorem dX0_refusalOn_16 : decode cX0_refusalOn 16 = .ok (.ifCond .eq 8, 3) := by decide +kernel
theorem dX0_refusalOn_19 : decode cX0_refusalOn 19 = .ok (.bipush 114, 2) := by decide +kernel
theorem dX0_refusalOn_21 : decode cX0_refusalOn 21 = .ok (.goto 5, 3) := by decide +kernel
theorem dX0_refusalOn_24 : decode cX0_refusalOn 24 = .ok (.bipush 111, 2) := by decide +kernel
theorem dX0_refusalOn_26 : decode cX0_refusalOn 26 = .ok (.ireturn, 1) := by decide +kernel
theorem dX0_allows_0 : decode cX0_allows 0 = .ok (.aload_n 0, 1) := by decide +kernel
theorem dX0_allows_1 : decode cX0_allows 1 = .ok (.getfield 31, 3) := by decide +kernel
theorem dX0_allows_4 : decode cX0_allows 4 = .ok (.ifCond .eq 16, 3) := by decide +kernel
theorem dX0_allows_7 : decode cX0_allows 7 = .ok (.iload_n 1, 1) := by decide +kernel
theorem dX0_allows_8 : decode cX0_allows 8 = .ok (.aload_n 0, 1) := by decide +kernel
theorem dX0_allows_9 : decode cX0_allows 9 = .ok (.getfield 31, 3) := by decide +kernel
theorem dX0_allows_12 : decode cX0_allows 12 = .ok (.invokestatic 54, 3) := by decide +kernel
theorem dX0_allows_15 : decode cX0_allows 15 = .ok (.ifCond .ne 5, 3) := by decide +kernel
theorem dX0_allows_18 : decode cX0_allows 18 = .ok (.iconst 0, 1) := by decide +kernel
theorem dX0_allows_19 : decode cX0_allows 19 = .ok (.ireturn, 1) := by decide +kernel
theorem dX0_allows_20 : decode cX0_allows 20 = .ok (.aload_n 0, 1) := by decide +kernel
theorem dX0_allows_21 : decode cX0_allows 21 = .ok (.getfield 34, 3) := by decide +kernel
theorem dX0_allows_24 : decode cX0_allows 24 = .ok (.ifCond .eq 14, 3) := by decide +kernel
theorem dX0_allows_27 : decode cX0_allows 27 = .ok (.iload_n 1, 1) := by decide +kernel
theorem dX0_allows_28 : decode cX0_allows 28 = .ok (.aload_n 0, 1) := by decide +kernel
theorem dX0_allows_29 : decode cX0_allows 29 = .ok (.getfield 34, 3) := by decide +kernel
theorem dX0_allows_32 : decode cX0_allows 32 = .ok (.invokestatic 54, 3) := by decide +kernel
theorem dX0_allows_35 : decode cX0_allows 35 = .ok (.ifCond .ne 7, 3) := by decide +kernel
theorem dX0_allows_38 : decode cX0_allows 38 = .ok (.iconst 1, 1) := by decide +kernel
theorem dX0_allows_39 : decode cX0_allows 39 = .ok (.goto 4, 3) := by decide +kernel
theorem dX0_allows_42 : decode cX0_allows 42 = .ok (.iconst 0, 1) := by decide +kernel
theorem dX0_allows_43 : decode cX0_allows 43 = .ok (.ireturn, 1) := by decide +kernel
theorem dX0_countCandidates_0 : decode cX0_countCandidates 0 = .ok (.iconst 0, 1) := by decide +kernel
theorem dX0_countCandidates_1 : decode cX0_countCandidates 1 = .ok (.istore_n 1, 1) := by decide +kernel
theorem dX0_countCandidates_2 : decode cX0_countCandidates 2 = .ok (.aload_n 0, 1) := by decide +kernel
theorem dX0_countCandidates_3 : decode cX0_countCandidates 3 = .ok (.getfield 19, 3) := by decide +kernel
theorem dX0_countCandidates_6 : decode cX0_countCandidates 6 = .ok (.getfield 58, 3) := by decide +kernel
theorem dX0_countCandidates_9 : decode cX0_countCandidates 9 = .ok (.astore_n 2, 1) := by decide +kernel
theorem dX0_countCandidates_10 : decode cX0_countCandidates 10 = .ok (.aload_n 2, 1) := by decide +kernel
theorem dX0_countCandidates_11 : decode cX0_countCandidates 11 = .ok (.arraylength, 1) := by decide +kernel
theorem dX0_countCandidates_12 : decode cX0_countCandidates 12 = .ok (.istore_n 3, 1) := by decide +kernel
theorem dX0_countCandidates_13 : decode cX0_countCandidates 13 = .ok (.iconst 0, 1) := by decide +kernel
theorem dX0_countCandidates_14 : decode cX0_countCandidates 14 = .ok (.istore 4, 2) := by decide +kernel
theorem dX0_countCandidates_16 : decode cX0_countCandidates 16 = .ok (.iload 4, 2) := by decide +kernel
theorem dX0_countCandidates_18 : decode cX0_countCandidates 18 = .ok (.iload_n 3, 1) := by decide +kernel
theorem dX0_countCandidates_19 : decode cX0_countCandidates 19 = .ok (.if_icmp .ge 29, 3) := by decide +kernel
theorem dX0_countCandidates_22 : decode cX0_countCandidates 22 = .ok (.aload_n 2, 1) := by decide +kernel
theorem dX0_countCandidates_23 : decode cX0_countCandidates 23 = .ok (.iload 4, 2) := by decide +kernel
theorem dX0_countCandidates_25 : decode cX0_countCandidates 25 = .ok (.aaload, 1) := by decide +kernel
theorem dX0_countCandidates_26 : decode cX0_countCandidates 26 = .ok (.astore 5, 2) := by decide +kernel
theorem dX0_countCandidates_28 : decode cX0_countCandidates 28 = .ok (.aload 5, 2) := by decide +kernel
theorem dX0_countCandidates_30 : decode cX0_countCandidates 30 = .ok (.ifnull 12, 3) := by decide +kernel
theorem dX0_countCandidates_33 : decode cX0_countCandidates 33 = .ok (.aload 5, 2) := by decide +kernel
theorem dX0_countCandidates_35 : decode cX0_countCandidates 35 = .ok (.aload_n 0, 1) := by decide +kernel
theorem dX0_countCandidates_36 : decode cX0_countCandidates 36 = .ok (.if_acmp .eq 6, 3) := by decide +kernel
theorem dX0_countCandidates_39 : decode cX0_countCandidates 39 = .ok (.iinc 1 1, 3) := by decide +kernel
theorem dX0_countCandidates_42 : decode cX0_countCandidates 42 = .ok (.iinc 4 1, 3) := by decide +kernel
theorem dX0_countCandidates_45 : decode cX0_countCandidates 45 = .ok (.goto (-29), 3) := by decide +kernel
theorem dX0_countCandidates_48 : decode cX0_countCandidates 48 = .ok (.iload_n 1, 1) := by decide +kernel
theorem dX0_countCandidates_49 : decode cX0_countCandidates 49 = .ok (.ireturn, 1) := by decide +kernel
theorem dX0_candidate_0 : decode cX0_candidate 0 = .ok (.iconst 0, 1) := by decide +kernel
theorem dX0_candidate_1 : decode cX0_candidate 1 = .ok (.istore_n 2, 1) := by decide +kernel
theorem dX0_candidate_2 : decode cX0_candidate 2 = .ok (.aload_n 0, 1) := by decide +kernel
theorem dX0_candidate_3 : decode cX0_candidate 3 = .ok (.getfield 19, 3) := by decide +kernel
theorem dX0_candidate_6 : decode cX0_candidate 6 = .ok (.getfield 58, 3) := by decide +kernel
theorem dX0_candidate_9 : decode cX0_candidate 9 = .ok (.astore_n 3, 1) := by decide +kernel
theorem dX0_candidate_10 : decode cX0_candidate 10 = .ok (.aload_n 3, 1) := by decide +kernel
theorem dX0_candidate_11 : decode cX0_candidate 11 = .ok (.arraylength, 1) := by decide +kernel
theorem dX0_candidate_12 : decode cX0_candidate 12 = .ok (.istore 4, 2) := by decide +kernel
theorem dX0_candidate_14 : decode cX0_candidate 14 = .ok (.iconst 0, 1) := by decide +kernel
theorem dX0_candidate_15 : decode cX0_candidate 15 = .ok (.istore 5, 2) := by decide +kernel
theorem dX0_candidate_17 : decode cX0_candidate 17 = .ok (.iload 5, 2) := by decide +kernel
theorem dX0_candidate_19 : decode cX0_candidate 19 = .ok (.iload 4, 2) := by decide +kernel
theorem dX0_candidate_21 : decode cX0_candidate 21 = .ok (.if_icmp .ge 37, 3) := by decide +kernel
theorem dX0_candidate_24 : decode cX0_candidate 24 = .ok (.aload_n 3, 1) := by decide +kernel
theorem dX0_candidate_25 : decode cX0_candidate 25 = .ok (.iload 5, 2) := by decide +kernel
theorem dX0_candidate_27 : decode cX0_candidate 27 = .ok (.aaload, 1) := by decide +kernel
theorem dX0_candidate_28 : decode cX0_candidate 28 = .ok (.astore 6, 2) := by decide +kernel
theorem dX0_candidate_30 : decode cX0_candidate 30 = .ok (.aload 6, 2) := by decide +kernel
theorem dX0_candidate_32 : decode cX0_candidate 32 = .ok (.ifnull 20, 3) := by decide +kernel
theorem dX0_candidate_35 : decode cX0_candidate 35 = .ok (.aload 6, 2) := by decide +kernel
theorem dX0_candidate_37 : decode cX0_candidate 37 = .ok (.aload_n 0, 1) := by decide +kernel
theorem dX0_candidate_38 : decode cX0_candidate 38 = .ok (.if_acmp .eq 14, 3) := by decide +kernel
theorem dX0_candidate_41 : decode cX0_candidate 41 = .ok (.iload_n 2, 1) := by decide +kernel
theorem dX0_candidate_42 : decode cX0_candidate 42 = .ok (.iload_n 1, 1) := by decide +kernel
theorem dX0_candidate_43 : decode cX0_candidate 43 = .ok (.if_icmp .ne 6, 3) := by decide +kernel
theorem dX0_candidate_46 : decode cX0_candidate 46 = .ok (.aload 6, 2) := by decide +kernel
theorem dX0_candidate_48 : decode cX0_candidate 48 = .ok (.areturn, 1) := by decide +kernel
theorem dX0_candidate_49 : decode cX0_candidate 49 = .ok (.iinc 2 1, 3) := by decide +kernel
theorem dX0_candidate_52 : decode cX0_candidate 52 = .ok (.iinc 5 1, 3) := by decide +kernel
theorem dX0_candidate_55 : decode cX0_candidate 55 = .ok (.goto (-38), 3) := by decide +kernel
theorem dX0_candidate_58 : decode cX0_candidate 58 = .ok (.aconst_null, 1) := by decide +kernel
theorem dX0_candidate_59 : decode cX0_candidate 59 = .ok (.areturn, 1) := by decide +kernel
theorem dX1_init_0 : decode cX1_init 0 = .ok (.aload_n 0, 1) := by decide +kernel
theorem dX1_init_1 : decode cX1_init 1 = .ok (.invokespecial 3, 3) := by decide +kernel
theorem dX1_init_4 : decode cX1_init 4 = .ok (.aload_n 0, 1) := by decide +kernel
theorem dX1_init_5 : decode cX1_init 5 = .ok (.bipush 7, 2) := by decide +kernel
theorem dX1_init_7 : decode cX1_init 7 = .ok (.anewarray 9, 3) := by decide +kernel
theorem dX1_init_10 : decode cX1_init 10 = .ok (.putfield 11, 3) := by decide +kernel
theorem dX1_init_13 : decode cX1_init 13 = .ok (.aload_n 0, 1) := by decide +kernel
theorem dX1_init_14 : decode cX1_init 14 = .ok (.iconst 0, 1) := by decide +kernel
theorem dX1_init_15 : decode cX1_init 15 = .ok (.putfield 17, 3) := by decide +kernel
theorem dX1_init_18 : decode cX1_init 18 = .ok (.aload_n 0, 1) := by decide +kernel
theorem dX1_init_19 : decode cX1_init 19 = .ok (.iconst 0, 1) := by decide +kernel
theorem dX1_init_20 : decode cX1_init 20 = .ok (.putfield 21, 3) := by decide +kernel
theorem dX1_init_23 : decode cX1_init 23 = .ok (.return_, 1) := by decide +kernel
theorem dX1_clear_0 : decode cX1_clear 0 = .ok (.aload_n 0, 1) := by decide +kernel
theorem dX1_clear_1 : decode cX1_clear 1 = .ok (.iconst 0, 1) := by decide +kernel
theorem dX1_clear_2 : decode cX1_clear 2 = .ok (.putfield 17, 3) := by decide +kernel
theorem dX1_clear_5 : decode cX1_clear 5 = .ok (.return_, 1) := by decide +kernel
theorem dX1_restart_0 : decode cX1_restart 0 = .ok (.aload_n 0, 1) := by decide +kernel
theorem dX1_restart_1 : decode cX1_restart 1 = .ok (.iconst 0, 1) := by decide +kernel
theorem dX1_restart_2 : decode cX1_restart 2 = .ok (.putfield 17, 3) := by decide +kernel
theorem dX1_restart_5 : decode cX1_restart 5 = .ok (.aload_n 0, 1) := by decide +kernel
theorem dX1_restart_6 : decode cX1_restart 6 = .ok (.iload_n 2, 1) := by decide +kernel
theorem dX1_restart_7 : decode cX1_restart 7 = .ok (.putfield 21, 3) := by decide +kernel
theorem dX1_restart_10 : decode cX1_restart 10 = .ok (.aload_n 0, 1) := by decide +kernel
theorem dX1_restart_11 : decode cX1_restart 11 = .ok (.aload_n 1, 1) := by decide +kernel
theorem dX1_restart_12 : decode cX1_restart 12 = .ok (.invokevirtual 24, 3) := by decide +kernel
theorem dX1_restart_15 : decode cX1_restart 15 = .ok (.pop, 1) := by decide +kernel
theorem dX1_restart_16 : decode cX1_restart 16 = .ok (.return_, 1) := by decide +kernel
theorem dX1_add_0 : decode cX1_add 0 = .ok (.aload_n 0, 1) := by decide +kernel
theorem dX1_add_1 : decode cX1_add 1 = .ok (.getfield 17, 3) := by decide +kernel
theorem dX1_add_4 : decode cX1_add 4 = .ok (.ifCond .lt 15, 3) := by decide +kernel
theorem dX1_add_7 : decode cX1_add 7 = .ok (.aload_n 0, 1) := by decide +kernel
theorem dX1_add_8 : decode cX1_add 8 = .ok (.getfield 17, 3) := by decide +kernel
theorem dX1_add_11 : decode cX1_add 11 = .ok (.aload_n 0, 1) := by decide +kernel
theorem dX1_add_12 : decode cX1_add 12 = .ok (.getfield 11, 3) := by decide +kernel
theorem dX1_add_15 : decode cX1_add 15 = .ok (.arraylength, 1) := by decide +kernel
theorem dX1_add_16 : decode cX1_add 16 = .ok (.if_icmp .lt 5, 3) := by decide +kernel
theorem dX1_add_19 : decode cX1_add 19 = .ok (.iconst 0, 1) := by decide +kernel
theorem dX1_add_20 : decode cX1_add 20 = .ok (.ireturn, 1) := by decide +kernel
theorem dX1_add_21 : decode cX1_add 21 = .ok (.aload_n 0, 1) := by decide +kernel
theorem dX1_add_22 : decode cX1_add 22 = .ok (.getfield 11, 3) := by decide +kernel
theorem dX1_add_25 : decode cX1_add 25 = .ok (.aload_n 0, 1) := by decide +kernel
theorem dX1_add_26 : decode cX1_add 26 = .ok (.getfield 17, 3) := by decide +kernel
theorem dX1_add_29 : decode cX1_add 29 = .ok (.aload_n 1, 1) := by decide +kernel
theorem dX1_add_30 : decode cX1_add 30 = .ok (.aastore, 1) := by decide +kernel
theorem dX1_add_31 : decode cX1_add 31 = .ok (.aload_n 0, 1) := by decide +kernel
theorem dX1_add_32 : decode cX1_add 32 = .ok (.dup, 1) := by decide +kernel
theorem dX1_add_33 : decode cX1_add 33 = .ok (.getfield 17, 3) := by decide +kernel
theorem dX1_add_36 : decode cX1_add 36 = .ok (.iconst 1, 1) := by decide +kernel
theorem dX1_add_37 : decode cX1_add 37 = .ok (.iadd, 1) := by decide +kernel
theorem dX1_add_38 : decode cX1_add 38 = .ok (.putfield 17, 3) := by decide +kernel
theorem dX1_add_41 : decode cX1_add 41 = .ok (.iconst 1, 1) := by decide +kernel
theorem dX1_add_42 : decode cX1_add 42 = .ok (.ireturn, 1) := by decide +kernel
theorem dX1_removeLast_0 : decode cX1_removeLast 0 = .ok (.aload_n 0, 1) := by decide +kernel
theorem dX1_removeLast_1 : decode cX1_removeLast 1 = .ok (.getfield 17, 3) := by decide +kernel
theorem dX1_removeLast_4 : decode cX1_removeLast 4 = .ok (.ifCond .le 13, 3) := by decide +kernel
theorem dX1_removeLast_7 : decode cX1_removeLast 7 = .ok (.aload_n 0, 1) := by decide +kernel
theorem dX1_removeLast_8 : decode cX1_removeLast 8 = .ok (.dup, 1) := by decide +kernel
theorem dX1_removeLast_9 : decode cX1_removeLast 9 = .ok (.getfield 17, 3) := by decide +kernel
theorem dX1_removeLast_12 : decode cX1_removeLast 12 = .ok (.iconst 1, 1) := by decide +kernel
theorem dX1_removeLast_13 : decode cX1_removeLast 13 = .ok (.isub, 1) := by decide +kernel
theorem dX1_removeLast_14 : decode cX1_removeLast 14 = .ok (.putfield 17, 3) := by decide +kernel
theorem dX1_removeLast_17 : decode cX1_removeLast 17 = .ok (.return_, 1) := by decide +kernel
theorem dX1_copy_0 : decode cX1_copy 0 = .ok (.aload_n 0, 1) := by decide +kernel
theorem dX1_copy_1 : decode cX1_copy 1 = .ok (.iconst 0, 1) := by decide +kernel
theorem dX1_copy_2 : decode cX1_copy 2 = .ok (.putfield 17, 3) := by decide +kernel
theorem dX1_copy_5 : decode cX1_copy 5 = .ok (.aload_n 0, 1) := by decide +kernel
theorem dX1_copy_6 : decode cX1_copy 6 = .ok (.aload_n 1, 1) := by decide +kernel
theorem dX1_copy_7 : decode cX1_copy 7 = .ok (.getfield 21, 3) := by decide +kernel
theorem dX1_copy_10 : decode cX1_copy 10 = .ok (.putfield 21, 3) := by decide +kernel
theorem dX1_copy_13 : decode cX1_copy 13 = .ok (.iconst 0, 1) := by decide +kernel
theorem dX1_copy_14 : decode cX1_copy 14 = .ok (.istore_n 2, 1) := by decide +kernel
theorem dX1_copy_15 : decode cX1_copy 15 = .ok (.iload_n 2, 1) := by decide +kernel
theorem dX1_copy_16 : decode cX1_copy 16 = .ok (.aload_n 1, 1) := by decide +kernel
theorem dX1_copy_17 : decode cX1_copy 17 = .ok (.getfield 17, 3) := by decide +kernel
theorem dX1_copy_20 : decode cX1_copy 20 = .ok (.if_icmp .ge 19, 3) := by decide +kernel
theorem dX1_copy_23 : decode cX1_copy 23 = .ok (.aload_n 0, 1) := by decide +kernel
theorem dX1_copy_24 : decode cX1_copy 24 = .ok (.aload_n 1, 1) := by decide +kernel
theorem dX1_copy_25 : decode cX1_copy 25 = .ok (.iload_n 2, 1) := by decide +kernel
theorem dX1_copy_26 : decode cX1_copy 26 = .ok (.invokevirtual 28, 3) := by decide +kernel
theorem dX1_copy_29 : decode cX1_copy 29 = .ok (.invokevirtual 24, 3) := by decide +kernel
theorem dX1_copy_32 : decode cX1_copy 32 = .ok (.pop, 1) := by decide +kernel
theorem dX1_copy_33 : decode cX1_copy 33 = .ok (.iinc 2 1, 3) := by decide +kernel
theorem dX1_copy_36 : decode cX1_copy 36 = .ok (.goto (-21), 3) := by decide +kernel
theorem dX1_copy_39 : decode cX1_copy 39 = .ok (.return_, 1) := by decide +kernel
theorem dX1_at_0 : decode cX1_at 0 = .ok (.iload_n 1, 1) := by decide +kernel
theorem dX1_at_1 : decode cX1_at 1 = .ok (.ifCond .lt 20, 3) := by decide +kernel
theorem dX1_at_4 : decode cX1_at 4 = .ok (.iload_n 1, 1) := by decide +kernel
theorem dX1_at_5 : decode cX1_at 5 = .ok (.aload_n 0, 1) := by decide +kernel
theorem dX1_at_6 : decode cX1_at 6 = .ok (.getfield 17, 3) := by decide +kernel
theorem dX1_at_9 : decode cX1_at 9 = .ok (.if_icmp .ge 12, 3) := by decide +kernel
theorem dX1_at_12 : decode cX1_at 12 = .ok (.iload_n 1, 1) := by decide +kernel
theorem dX1_at_13 : decode cX1_at 13 = .ok (.aload_n 0, 1) := by decide +kernel
theorem dX1_at_14 : decode cX1_at 14 = .ok (.getfield 11, 3) := by decide +kernel
theorem dX1_at_17 : decode cX1_at 17 = .ok (.arraylength, 1) := by decide +kernel
theorem dX1_at_18 : decode cX1_at 18 = .ok (.if_icmp .lt 7, 3) := by decide +kernel
theorem dX1_at_21 : decode cX1_at 21 = .ok (.aconst_null, 1) := by decide +kernel
theorem dX1_at_22 : decode cX1_at 22 = .ok (.goto 9, 3) := by decide +kernel
theorem dX1_at_25 : decode cX1_at 25 = .ok (.aload_n 0, 1) := by decide +kernel
theorem dX1_at_26 : decode cX1_at 26 = .ok (.getfield 11, 3) := by decide +kernel
theorem dX1_at_29 : decode cX1_at 29 = .ok (.iload_n 1, 1) := by decide +kernel
theorem dX1_at_30 : decode cX1_at 30 = .ok (.aaload, 1) := by decide +kernel
theorem dX1_at_31 : decode cX1_at 31 = .ok (.areturn, 1) := by decide +kernel
theorem dX1_last_0 : decode cX1_last 0 = .ok (.aload_n 0, 1) := by decide +kernel
theorem dX1_last_1 : decode cX1_last 1 = .ok (.aload_n 0, 1) := by decide +kernel
theorem dX1_last_2 : decode cX1_last 2 = .ok (.getfield 17, 3) := by decide +kernel
theorem dX1_last_5 : decode cX1_last 5 = .ok (.iconst 1, 1) := by decide +kernel
theorem dX1_last_6 : decode cX1_last 6 = .ok (.isub, 1) := by decide +kernel
theorem dX1_last_7 : decode cX1_last 7 = .ok (.invokevirtual 28, 3) := by decide +kernel
theorem dX1_last_10 : decode cX1_last 10 = .ok (.areturn, 1) := by decide +kernel
theorem dX1_has_0 : decode cX1_has 0 = .ok (.iconst 0, 1) := by decide +kernel
theorem dX1_has_1 : decode cX1_has 1 = .ok (.istore_n 2, 1) := by decide +kernel
theorem dX1_has_2 : decode cX1_has 2 = .ok (.iload_n 2, 1) := by decide +kernel
theorem dX1_has_3 : decode cX1_has 3 = .ok (.aload_n 0, 1) := by decide +kernel
theorem dX1_has_4 : decode cX1_has 4 = .ok (.getfield 17, 3) := by decide +kernel
theorem dX1_has_7 : decode cX1_has 7 = .ok (.if_icmp .ge 20, 3) := by decide +kernel
theorem dX1_has_10 : decode cX1_has 10 = .ok (.aload_n 0, 1) := by decide +kernel
theorem dX1_has_11 : decode cX1_has 11 = .ok (.iload_n 2, 1) := by decide +kernel
theorem dX1_has_12 : decode cX1_has 12 = .ok (.invokevirtual 28, 3) := by decide +kernel
theorem dX1_has_15 : decode cX1_has 15 = .ok (.aload_n 1, 1) := by decide +kernel
theorem dX1_has_16 : decode cX1_has 16 = .ok (.if_acmp .ne 5, 3) := by decide +kernel
theorem dX1_has_19 : decode cX1_has 19 = .ok (.iconst 1, 1) := by decide +kernel
theorem dX1_has_20 : decode cX1_has 20 = .ok (.ireturn, 1) := by decide +kernel
theorem dX1_has_21 : decode cX1_has 21 = .ok (.iinc 2 1, 3) := by decide +kernel
theorem dX1_has_24 : decode cX1_has 24 = .ok (.goto (-22), 3) := by decide +kernel
theorem dX1_has_27 : decode cX1_has 27 = .ok (.iconst 0, 1) := by decide +kernel
theorem dX1_has_28 : decode cX1_has 28 = .ok (.ireturn, 1) := by decide +kernel
theorem dX1_endsInTrust_0 : decode cX1_endsInTrust 0 = .ok (.aload_n 0, 1) := by decide +kernel
theorem dX1_endsInTrust_1 : decode cX1_endsInTrust 1 = .ok (.invokevirtual 32, 3) := by decide +kernel
theorem dX1_endsInTrust_4 : decode cX1_endsInTrust 4 = .ok (.astore_n 1, 1) := by decide +kernel
theorem dX1_endsInTrust_5 : decode cX1_endsInTrust 5 = .ok (.aload_n 1, 1) := by decide +kernel
theorem dX1_endsInTrust_6 : decode cX1_endsInTrust 6 = .ok (.ifnull 21, 3) := by decide +kernel
theorem dX1_endsInTrust_9 : decode cX1_endsInTrust 9 = .ok (.aload_n 1, 1) := by decide +kernel
theorem dX1_endsInTrust_10 : decode cX1_endsInTrust 10 = .ok (.invokevirtual 36, 3) := by decide +kernel
theorem dX1_endsInTrust_13 : decode cX1_endsInTrust 13 = .ok (.ifCond .eq 14, 3) := by decide +kernel
theorem dX1_endsInTrust_16 : decode cX1_endsInTrust 16 = .ok (.aload_n 1, 1) := by decide +kernel
theorem dX1_endsInTrust_17 : decode cX1_endsInTrust 17 = .ok (.getfield 40, 3) := by decide +kernel
theorem dX1_endsInTrust_20 : decode cX1_endsInTrust 20 = .ok (.ifCond .eq 7, 3) := by decide +kernel
theorem dX1_endsInTrust_23 : decode cX1_endsInTrust 23 = .ok (.iconst 1, 1) := by decide +kernel
theorem dX1_endsInTrust_24 : decode cX1_endsInTrust 24 = .ok (.goto 4, 3) := by decide +kernel
theorem dX1_endsInTrust_27 : decode cX1_endsInTrust 27 = .ok (.iconst 0, 1) := by decide +kernel
theorem dX1_endsInTrust_28 : decode cX1_endsInTrust 28 = .ok (.ireturn, 1) := by decide +kernel
theorem dX1_refusalOf_0 : decode cX1_refusalOf 0 = .ok (.aload_n 0, 1) := by decide +kernel
theorem dX1_refusalOf_1 : decode cX1_refusalOf 1 = .ok (.aload_n 1, 1) := by decide +kernel
theorem dX1_refusalOf_2 : decode cX1_refusalOf 2 = .ok (.invokevirtual 44, 3) := by decide +kernel
theorem dX1_refusalOf_5 : decode cX1_refusalOf 5 = .ok (.ifCond .eq 6, 3) := by decide +kernel
theorem dX1_refusalOf_8 : decode cX1_refusalOf 8 = .ok (.bipush 120, 2) := by decide +kernel
theorem dX1_refusalOf_10 : decode cX1_refusalOf 10 = .ok (.ireturn, 1) := by decide +kernel
theorem dX1_refusalOf_11 : decode cX1_refusalOf 11 = .ok (.aload_n 1, 1) := by decide +kernel
theorem dX1_refusalOf_12 : decode cX1_refusalOf 12 = .ok (.aload_n 0, 1) := by decide +kernel
theorem dX1_refusalOf_13 : decode cX1_refusalOf 13 = .ok (.getfield 21, 3) := by decide +kernel
theorem dX1_refusalOf_16 : decode cX1_refusalOf 16 = .ok (.invokevirtual 47, 3) := by decide +kernel
theorem dX1_refusalOf_19 : decode cX1_refusalOf 19 = .ok (.istore_n 2, 1) := by decide +kernel
theorem dX1_refusalOf_20 : decode cX1_refusalOf 20 = .ok (.iload_n 2, 1) := by decide +kernel
theorem dX1_refusalOf_21 : decode cX1_refusalOf 21 = .ok (.bipush 111, 2) := by decide +kernel
theorem dX1_refusalOf_23 : decode cX1_refusalOf 23 = .ok (.if_icmp .eq 5, 3) := by decide +kernel
theorem dX1_refusalOf_26 : decode cX1_refusalOf 26 = .ok (.iload_n 2, 1) := by decide +kernel
theorem dX1_refusalOf_27 : decode cX1_refusalOf 27 = .ok (.ireturn, 1) := by decide +kernel
theorem dX1_refusalOf_28 : decode cX1_refusalOf 28 = .ok (.aload_n 1, 1) := by decide +kernel
theorem dX1_refusalOf_29 : decode cX1_refusalOf 29 = .ok (.invokevirtual 51, 3) := by decide +kernel
theorem dX1_refusalOf_32 : decode cX1_refusalOf 32 = .ok (.ifCond .ne 6, 3) := by decide +kernel
theorem dX1_refusalOf_35 : decode cX1_refusalOf 35 = .ok (.bipush 97, 2) := by decide +kernel
theorem dX1_refusalOf_37 : decode cX1_refusalOf 37 = .ok (.ireturn, 1) := by decide +kernel
theorem dX1_refusalOf_38 : decode cX1_refusalOf 38 = .ok (.aload_n 1, 1) := by decide +kernel
theorem dX1_refusalOf_39 : decode cX1_refusalOf 39 = .ok (.getfield 54, 3) := by decide +kernel
theorem dX1_refusalOf_42 : decode cX1_refusalOf 42 = .ok (.aload_n 0, 1) := by decide +kernel
theorem dX1_refusalOf_43 : decode cX1_refusalOf 43 = .ok (.getfield 17, 3) := by decide +kernel
theorem dX1_refusalOf_46 : decode cX1_refusalOf 46 = .ok (.iconst 1, 1) := by decide +kernel
theorem dX1_refusalOf_47 : decode cX1_refusalOf 47 = .ok (.isub, 1) := by decide +kernel
theorem dX1_refusalOf_48 : decode cX1_refusalOf 48 = .ok (.if_icmp .ge 6, 3) := by decide +kernel
theorem dX1_refusalOf_51 : decode cX1_refusalOf 51 = .ok (.bipush 108, 2) := by decide +kernel
theorem dX1_refusalOf_53 : decode cX1_refusalOf 53 = .ok (.ireturn, 1) := by decide +kernel
theorem dX1_refusalOf_54 : decode cX1_refusalOf 54 = .ok (.aload_n 0, 1) := by decide +kernel
theorem dX1_refusalOf_55 : decode cX1_refusalOf 55 = .ok (.aload_n 1, 1) := by decide +kernel
theorem dX1_refusalOf_56 : decode cX1_refusalOf 56 = .ok (.aload_n 0, 1) := by decide +kernel
theorem dX1_refusalOf_57 : decode cX1_refusalOf 57 = .ok (.getfield 17, 3) := by decide +kernel
theorem dX1_refusalOf_60 : decode cX1_refusalOf 60 = .ok (.invokevirtual 57, 3) := by decide +kernel
theorem dX1_refusalOf_63 : decode cX1_refusalOf 63 = .ok (.ifCond .eq 8, 3) := by decide +kernel
theorem dX1_refusalOf_66 : decode cX1_refusalOf 66 = .ok (.bipush 111, 2) := by decide +kernel
theorem dX1_refusalOf_68 : decode cX1_refusalOf 68 = .ok (.goto 5, 3) := by decide +kernel
theorem dX1_refusalOf_71 : decode cX1_refusalOf 71 = .ok (.bipush 110, 2) := by decide +kernel
theorem dX1_refusalOf_73 : decode cX1_refusalOf 73 = .ok (.ireturn, 1) := by decide +kernel
theorem dX1_isGood_0 : decode cX1_isGood 0 = .ok (.aload_n 0, 1) := by decide +kernel
theorem dX1_isGood_1 : decode cX1_isGood 1 = .ok (.invokevirtual 61, 3) := by decide +kernel
theorem dX1_isGood_4 : decode cX1_isGood 4 = .ok (.ifCond .ne 5, 3) := by decide +kernel
theorem dX1_isGood_7 : decode cX1_isGood 7 = .ok (.iconst 0, 1) := by decide +kernel
theorem dX1_isGood_8 : decode cX1_isGood 8 = .ok (.ireturn, 1) := by decide +kernel
theorem dX1_isGood_9 : decode cX1_isGood 9 = .ok (.iconst 0, 1) := by decide +kernel
theorem dX1_isGood_10 : decode cX1_isGood 10 = .ok (.istore_n 1, 1) := by decide +kernel
theorem dX1_isGood_11 : decode cX1_isGood 11 = .ok (.iload_n 1, 1) := by decide +kernel
theorem dX1_isGood_12 : decode cX1_isGood 12 = .ok (.aload_n 0, 1) := by decide +kernel
theorem dX1_isGood_13 : decode cX1_isGood 13 = .ok (.getfield 17, 3) := by decide +kernel
theorem dX1_isGood_16 : decode cX1_isGood 16 = .ok (.if_icmp .ge 30, 3) := by decide +kernel
theorem dX1_isGood_19 : decode cX1_isGood 19 = .ok (.aload_n 0, 1) := by decide +kernel
theorem dX1_isGood_20 : decode cX1_isGood 20 = .ok (.iload_n 1, 1) := by decide +kernel
theorem dX1_isGood_21 : decode cX1_isGood 21 = .ok (.invokevirtual 28, 3) := by decide +kernel
theorem dX1_isGood_24 : decode cX1_isGood 24 = .ok (.astore_n 2, 1) := by decide +kernel
theorem dX1_isGood_25 : decode cX1_isGood 25 = .ok (.aload_n 2, 1) := by decide +kernel
theorem dX1_isGood_26 : decode cX1_isGood 26 = .ok (.ifnull 12, 3) := by decide +kernel
theorem dX1_isGood_29 : decode cX1_isGood 29 = .ok (.aload_n 0, 1) := by decide +kernel
theorem dX1_isGood_30 : decode cX1_isGood 30 = .ok (.aload_n 2, 1) := by decide +kernel
theorem dX1_isGood_31 : decode cX1_isGood 31 = .ok (.iload_n 1, 1) := by decide +kernel
theorem dX1_isGood_32 : decode cX1_isGood 32 = .ok (.invokevirtual 64, 3) := by decide +kernel
theorem dX1_isGood_35 : decode cX1_isGood 35 = .ok (.ifCond .ne 5, 3) := by decide +kernel
theorem dX1_isGood_38 : decode cX1_isGood 38 = .ok (.iconst 0, 1) := by decide +kernel
theorem dX1_isGood_39 : decode cX1_isGood 39 = .ok (.ireturn, 1) := by decide +kernel
theorem dX1_isGood_40 : decode cX1_isGood 40 = .ok (.iinc 1 1, 3) := by decide +kernel
theorem dX1_isGood_43 : decode cX1_isGood 43 = .ok (.goto (-32), 3) := by decide +kernel
theorem dX1_isGood_46 : decode cX1_isGood 46 = .ok (.iconst 1, 1) := by decide +kernel
theorem dX1_isGood_47 : decode cX1_isGood 47 = .ok (.ireturn, 1) := by decide +kernel
theorem dX1_isFitAt_0 : decode cX1_isFitAt 0 = .ok (.aload_n 1, 1) := by decide +kernel
theorem dX1_isFitAt_1 : decode cX1_isFitAt 1 = .ok (.aload_n 0, 1) := by decide +kernel
theorem dX1_isFitAt_2 : decode cX1_isFitAt 2 = .ok (.getfield 21, 3) := by decide +kernel
theorem dX1_isFitAt_5 : decode cX1_isFitAt 5 = .ok (.invokevirtual 47, 3) := by decide +kernel
theorem dX1_isFitAt_8 : decode cX1_isFitAt 8 = .ok (.bipush 111, 2) := by decide +kernel
theorem dX1_isFitAt_10 : decode cX1_isFitAt 10 = .ok (.if_icmp .eq 5, 3) := by decide +kernel
theorem dX1_isFitAt_13 : decode cX1_isFitAt 13 = .ok (.iconst 0, 1) := by decide +kernel
theorem dX1_isFitAt_14 : decode cX1_isFitAt 14 = .ok (.ireturn, 1) := by decide +kernel
theorem dX1_isFitAt_15 : decode cX1_isFitAt 15 = .ok (.iload_n 2, 1) := by decide +kernel
theorem dX1_isFitAt_16 : decode cX1_isFitAt 16 = .ok (.ifCond .eq 29, 3) := by decide +kernel
theorem dX1_isFitAt_19 : decode cX1_isFitAt 19 = .ok (.aload_n 1, 1) := by decide +kernel
theorem dX1_isFitAt_20 : decode cX1_isFitAt 20 = .ok (.invokevirtual 51, 3) := by decide +kernel
theorem dX1_isFitAt_23 : decode cX1_isFitAt 23 = .ok (.ifCond .eq 26, 3) := by decide +kernel
theorem dX1_isFitAt_26 : decode cX1_isFitAt 26 = .ok (.aload_n 1, 1) := by decide +kernel
theorem dX1_isFitAt_27 : decode cX1_isFitAt 27 = .ok (.getfield 54, 3) := by decide +kernel
theorem dX1_isFitAt_30 : decode cX1_isFitAt 30 = .ok (.iload_n 2, 1) := by decide +kernel
theorem dX1_isFitAt_31 : decode cX1_isFitAt 31 = .ok (.iconst 1, 1) := by decide +kernel
theorem dX1_isFitAt_32 : decode cX1_isFitAt 32 = .ok (.isub, 1) := by decide +kernel
theorem dX1_isFitAt_33 : decode cX1_isFitAt 33 = .ok (.if_icmp .lt 16, 3) := by decide +kernel
theorem dX1_isFitAt_36 : decode cX1_isFitAt 36 = .ok (.aload_n 0, 1) := by decide +kernel
theorem dX1_isFitAt_37 : decode cX1_isFitAt 37 = .ok (.aload_n 1, 1) := by decide +kernel
theorem dX1_isFitAt_38 : decode cX1_isFitAt 38 = .ok (.iload_n 2, 1) := by decide +kernel
theorem dX1_isFitAt_39 : decode cX1_isFitAt 39 = .ok (.invokevirtual 57, 3) := by decide +kernel
theorem dX1_isFitAt_42 : decode cX1_isFitAt 42 = .ok (.ifCond .eq 7, 3) := by decide +kernel
theorem dX1_isFitAt_45 : decode cX1_isFitAt 45 = .ok (.iconst 1, 1) := by decide +kernel
theorem dX1_isFitAt_46 : decode cX1_isFitAt 46 = .ok (.goto 4, 3) := by decide +kernel
theorem dX1_isFitAt_49 : decode cX1_isFitAt 49 = .ok (.iconst 0, 1) := by decide +kernel
theorem dX1_isFitAt_50 : decode cX1_isFitAt 50 = .ok (.ireturn, 1) := by decide +kernel
theorem dX1_allowsNamesBefore_0 : decode cX1_allowsNamesBefore 0 = .ok (.iconst 0, 1) := by decide +kernel
theorem dX1_allowsNamesBefore_1 : decode cX1_allowsNamesBefore 1 = .ok (.istore_n 3, 1) := by decide +kernel
theorem dX1_allowsNamesBefore_2 : decode cX1_allowsNamesBefore 2 = .ok (.iload_n 3, 1) := by decide +kernel
theorem dX1_allowsNamesBefore_3 : decode cX1_allowsNamesBefore 3 = .ok (.iload_n 2, 1) := by decide +kernel
theorem dX1_allowsNamesBefore_4 : decode cX1_allowsNamesBefore 4 = .ok (.if_icmp .ge 38, 3) := by decide +kernel
theorem dX1_allowsNamesBefore_7 : decode cX1_allowsNamesBefore 7 = .ok (.aload_n 0, 1) := by decide +kernel
theorem dX1_allowsNamesBefore_8 : decode cX1_allowsNamesBefore 8 = .ok (.iload_n 3, 1) := by decide +kernel
theorem dX1_allowsNamesBefore_9 : decode cX1_allowsNamesBefore 9 = .ok (.invokevirtual 28, 3) := by decide +kernel
theorem dX1_allowsNamesBefore_12 : decode cX1_allowsNamesBefore 12 = .ok (.astore 4, 2) := by decide +kernel
theorem dX1_allowsNamesBefore_14 : decode cX1_allowsNamesBefore 14 = .ok (.aload 4, 2) := by decide +kernel
theorem dX1_allowsNamesBefore_16 : decode cX1_allowsNamesBefore 16 = .ok (.ifnull 20, 3) := by decide +kernel
theorem dX1_allowsNamesBefore_19 : decode cX1_allowsNamesBefore 19 = .ok (.aload_n 1, 1) := by decide +kernel
theorem dX1_allowsNamesBefore_20 : decode cX1_allowsNamesBefore 20 = .ok (.aload 4, 2) := by decide +kernel
theorem dX1_allowsNamesBefore_22 : decode cX1_allowsNamesBefore 22 = .ok (.getfield 67, 3) := by decide +kernel
theorem dX1_allowsNamesBefore_25 : decode cX1_allowsNamesBefore 25 = .ok (.getfield 71, 3) := by decide +kernel
theorem dX1_allowsNamesBefore_28 : decode cX1_allowsNamesBefore 28 = .ok (.invokevirtual 76, 3) := by decide +kernel
theorem dX1_allowsNamesBefore_31 : decode cX1_allowsNamesBefore 31 = .ok (.ifCond .ne 5, 3) := by decide +kernel
theorem dX1_allowsNamesBefore_34 : decode cX1_allowsNamesBefore 34 = .ok (.iconst 0, 1) := by decide +kernel
theorem dX1_allowsNamesBefore_35 : decode cX1_allowsNamesBefore 35 = .ok (.ireturn, 1) := by decide +kernel
theorem dX1_allowsNamesBefore_36 : decode cX1_allowsNamesBefore 36 = .ok (.iinc 3 1, 3) := by decide +kernel
theorem dX1_allowsNamesBefore_39 : decode cX1_allowsNamesBefore 39 = .ok (.goto (-37), 3) := by decide +kernel
theorem dX1_allowsNamesBefore_42 : decode cX1_allowsNamesBefore 42 = .ok (.iconst 1, 1) := by decide +kernel
theorem dX1_allowsNamesBefore_43 : decode cX1_allowsNamesBefore 43 = .ok (.ireturn, 1) := by decide +kernel
theorem dX2_init_0 : decode cX2_init 0 = .ok (.aload_n 0, 1) := by decide +kernel
theorem dX2_init_1 : decode cX2_init 1 = .ok (.invokespecial 3, 3) := by decide +kernel
theorem dX2_init_4 : decode cX2_init 4 = .ok (.aload_n 0, 1) := by decide +kernel
theorem dX2_init_5 : decode cX2_init 5 = .ok (.iload_n 1, 1) := by decide +kernel
theorem dX2_init_6 : decode cX2_init 6 = .ok (.putfield 9, 3) := by decide +kernel
theorem dX2_init_9 : decode cX2_init 9 = .ok (.aload_n 0, 1) := by decide +kernel
theorem dX2_init_10 : decode cX2_init 10 = .ok (.iload_n 2, 1) := by decide +kernel
theorem dX2_init_11 : decode cX2_init 11 = .ok (.putfield 15, 3) := by decide +kernel
theorem dX2_init_14 : decode cX2_init 14 = .ok (.aload_n 0, 1) := by decide +kernel
theorem dX2_init_15 : decode cX2_init 15 = .ok (.iconst 3, 1) := by decide +kernel
theorem dX2_init_16 : decode cX2_init 16 = .ok (.anewarray 18, 3) := by decide +kernel
theorem dX2_init_19 : decode cX2_init 19 = .ok (.putfield 20, 3) := by decide +kernel
theorem dX2_init_22 : decode cX2_init 22 = .ok (.aload_n 0, 1) := by decide +kernel
theorem dX2_init_23 : decode cX2_init 23 = .ok (.iconst 0, 1) := by decide +kernel
theorem dX2_init_24 : decode cX2_init 24 = .ok (.putfield 24, 3) := by decide +kernel
theorem dX2_init_27 : decode cX2_init 27 = .ok (.return_, 1) := by decide +kernel
theorem dX2_isFull_0 : decode cX2_isFull 0 = .ok (.aload_n 0, 1) := by decide +kernel
theorem dX2_isFull_1 : decode cX2_isFull 1 = .ok (.getfield 24, 3) := by decide +kernel
theorem dX2_isFull_4 : decode cX2_isFull 4 = .ok (.iconst 3, 1) := by decide +kernel
theorem dX2_isFull_5 : decode cX2_isFull 5 = .ok (.if_icmp .lt 7, 3) := by decide +kernel
theorem dX2_isFull_8 : decode cX2_isFull 8 = .ok (.iconst 1, 1) := by decide +kernel
theorem dX2_isFull_9 : decode cX2_isFull 9 = .ok (.goto 4, 3) := by decide +kernel
theorem dX2_isFull_12 : decode cX2_isFull 12 = .ok (.iconst 0, 1) := by decide +kernel
theorem dX2_isFull_13 : decode cX2_isFull 13 = .ok (.ireturn, 1) := by decide +kernel
theorem dX2_receive_0 : decode cX2_receive 0 = .ok (.aload_n 0, 1) := by decide +kernel
theorem dX2_receive_1 : decode cX2_receive 1 = .ok (.getfield 24, 3) := by decide +kernel
theorem dX2_receive_4 : decode cX2_receive 4 = .ok (.ifCond .lt 35, 3) := by decide +kernel
theorem dX2_receive_7 : decode cX2_receive 7 = .ok (.aload_n 0, 1) := by decide +kernel
theorem dX2_receive_8 : decode cX2_receive 8 = .ok (.getfield 24, 3) := by decide +kernel
theorem dX2_receive_11 : decode cX2_receive 11 = .ok (.aload_n 0, 1) := by decide +kernel
theorem dX2_receive_12 : decode cX2_receive 12 = .ok (.getfield 20, 3) := by decide +kernel
theorem dX2_receive_15 : decode cX2_receive 15 = .ok (.arraylength, 1) := by decide +kernel
theorem dX2_receive_16 : decode cX2_receive 16 = .ok (.if_icmp .ge 23, 3) := by decide +kernel
theorem dX2_receive_19 : decode cX2_receive 19 = .ok (.aload_n 0, 1) := by decide +kernel
theorem dX2_receive_20 : decode cX2_receive 20 = .ok (.getfield 20, 3) := by decide +kernel
theorem dX2_receive_23 : decode cX2_receive 23 = .ok (.aload_n 0, 1) := by decide +kernel
theorem dX2_receive_24 : decode cX2_receive 24 = .ok (.getfield 24, 3) := by decide +kernel
theorem dX2_receive_27 : decode cX2_receive 27 = .ok (.aload_n 1, 1) := by decide +kernel
theorem dX2_receive_28 : decode cX2_receive 28 = .ok (.aastore, 1) := by decide +kernel
theorem dX2_receive_29 : decode cX2_receive 29 = .ok (.aload_n 0, 1) := by decide +kernel
theorem dX2_receive_30 : decode cX2_receive 30 = .ok (.dup, 1) := by decide +kernel
theorem dX2_receive_31 : decode cX2_receive 31 = .ok (.getfield 24, 3) := by decide +kernel
theorem dX2_receive_34 : decode cX2_receive 34 = .ok (.iconst 1, 1) := by decide +kernel
theorem dX2_receive_35 : decode cX2_receive 35 = .ok (.iadd, 1) := by decide +kernel
theorem dX2_receive_36 : decode cX2_receive 36 = .ok (.putfield 24, 3) := by decide +kernel
theorem dX2_receive_39 : decode cX2_receive 39 = .ok (.return_, 1) := by decide +kernel
theorem dX3_init_0 : decode cX3_init 0 = .ok (.aload_n 0, 1) := by decide +kernel
theorem dX3_init_1 : decode cX3_init 1 = .ok (.invokespecial 3, 3) := by decide +kernel
theorem dX3_init_4 : decode cX3_init 4 = .ok (.aload_n 0, 1) := by decide +kernel
theorem dX3_init_5 : decode cX3_init 5 = .ok (.bipush 40, 2) := by decide +kernel
theorem dX3_init_7 : decode cX3_init 7 = .ok (.newarray .int, 2) := by decide +kernel
theorem dX3_init_9 : decode cX3_init 9 = .ok (.putfield 9, 3) := by decide +kernel
theorem dX3_init_12 : decode cX3_init 12 = .ok (.aload_n 0, 1) := by decide +kernel
theorem dX3_init_13 : decode cX3_init 13 = .ok (.bipush 40, 2) := by decide +kernel
theorem dX3_init_15 : decode cX3_init 15 = .ok (.newarray .long, 2) := by decide +kernel
theorem dX3_init_17 : decode cX3_init 17 = .ok (.putfield 15, 3) := by decide +kernel
theorem dX3_init_20 : decode cX3_init 20 = .ok (.aload_n 0, 1) := by decide +kernel
theorem dX3_init_21 : decode cX3_init 21 = .ok (.iconst 0, 1) := by decide +kernel
theorem dX3_init_22 : decode cX3_init 22 = .ok (.putfield 19, 3) := by decide +kernel
theorem dX3_init_25 : decode cX3_init 25 = .ok (.return_, 1) := by decide +kernel
theorem dX3_keep_0 : decode cX3_keep 0 = .ok (.aload_n 0, 1) := by decide +kernel
theorem dX3_keep_1 : decode cX3_keep 1 = .ok (.getfield 19, 3) := by decide +kernel
theorem dX3_keep_4 : decode cX3_keep 4 = .ok (.ifCond .lt 57, 3) := by decide +kernel
theorem dX3_keep_7 : decode cX3_keep 7 = .ok (.aload_n 0, 1) := by decide +kernel
theorem dX3_keep_8 : decode cX3_keep 8 = .ok (.getfield 19, 3) := by decide +kernel
theorem dX3_keep_11 : decode cX3_keep 11 = .ok (.aload_n 0, 1) := by decide +kernel
theorem dX3_keep_12 : decode cX3_keep 12 = .ok (.getfield 9, 3) := by decide +kernel
theorem dX3_keep_15 : decode cX3_keep 15 = .ok (.arraylength, 1) := by decide +kernel
theorem dX3_keep_16 : decode cX3_keep 16 = .ok (.if_icmp .ge 45, 3) := by decide +kernel
theorem dX3_keep_19 : decode cX3_keep 19 = .ok (.aload_n 0, 1) := by decide +kernel
theorem dX3_keep_20 : decode cX3_keep 20 = .ok (.getfield 19, 3) := by decide +kernel
theorem dX3_keep_23 : decode cX3_keep 23 = .ok (.aload_n 0, 1) := by decide +kernel
theorem dX3_keep_24 : decode cX3_keep 24 = .ok (.getfield 15, 3) := by decide +kernel
theorem dX3_keep_27 : decode cX3_keep 27 = .ok (.arraylength, 1) := by decide +kernel
theorem dX3_keep_28 : decode cX3_keep 28 = .ok (.if_icmp .ge 33, 3) := by decide +kernel
theorem dX3_keep_31 : decode cX3_keep 31 = .ok (.aload_n 0, 1) := by decide +kernel
theorem dX3_keep_32 : decode cX3_keep 32 = .ok (.getfield 9, 3) := by decide +kernel
theorem dX3_keep_35 : decode cX3_keep 35 = .ok (.aload_n 0, 1) := by decide +kernel
theorem dX3_keep_36 : decode cX3_keep 36 = .ok (.getfield 19, 3) := by decide +kernel
theorem dX3_keep_39 : decode cX3_keep 39 = .ok (.iload_n 1, 1) := by decide +kernel
theorem dX3_keep_40 : decode cX3_keep 40 = .ok (.iastore, 1) := by decide +kernel
theorem dX3_keep_41 : decode cX3_keep 41 = .ok (.aload_n 0, 1) := by decide +kernel
theorem dX3_keep_42 : decode cX3_keep 42 = .ok (.getfield 15, 3) := by decide +kernel
theorem dX3_keep_45 : decode cX3_keep 45 = .ok (.aload_n 0, 1) := by decide +kernel
theorem dX3_keep_46 : decode cX3_keep 46 = .ok (.getfield 19, 3) := by decide +kernel
theorem dX3_keep_49 : decode cX3_keep 49 = .ok (.lload_n 2, 1) := by decide +kernel
theorem dX3_keep_50 : decode cX3_keep 50 = .ok (.lastore, 1) := by decide +kernel
theorem dX3_keep_51 : decode cX3_keep 51 = .ok (.aload_n 0, 1) := by decide +kernel
theorem dX3_keep_52 : decode cX3_keep 52 = .ok (.dup, 1) := by decide +kernel
theorem dX3_keep_53 : decode cX3_keep 53 = .ok (.getfield 19, 3) := by decide +kernel
theorem dX3_keep_56 : decode cX3_keep 56 = .ok (.iconst 1, 1) := by decide +kernel
theorem dX3_keep_57 : decode cX3_keep 57 = .ok (.iadd, 1) := by decide +kernel
theorem dX3_keep_58 : decode cX3_keep 58 = .ok (.putfield 19, 3) := by decide +kernel
theorem dX3_keep_61 : decode cX3_keep 61 = .ok (.return_, 1) := by decide +kernel
theorem dX3_tellOf_0 : decode cX3_tellOf 0 = .ok (.iconst 0, 1) := by decide +kernel
theorem dX3_tellOf_1 : decode cX3_tellOf 1 = .ok (.istore_n 3, 1) := by decide +kernel
theorem dX3_tellOf_2 : decode cX3_tellOf 2 = .ok (.iload_n 3, 1) := by decide +kernel
theorem dX3_tellOf_3 : decode cX3_tellOf 3 = .ok (.aload_n 0, 1) := by decide +kernel
theorem dX3_tellOf_4 : decode cX3_tellOf 4 = .ok (.getfield 19, 3) := by decide +kernel
theorem dX3_tellOf_7 : decode cX3_tellOf 7 = .ok (.if_icmp .ge 55, 3) := by decide +kernel
theorem dX3_tellOf_10 : decode cX3_tellOf 10 = .ok (.iload_n 3, 1) := by decide +kernel
theorem dX3_tellOf_11 : decode cX3_tellOf 11 = .ok (.aload_n 0, 1) := by decide +kernel
theorem dX3_tellOf_12 : decode cX3_tellOf 12 = .ok (.getfield 9, 3) := by decide +kernel
theorem dX3_tellOf_15 : decode cX3_tellOf 15 = .ok (.arraylength, 1) := by decide +kernel
theorem dX3_tellOf_16 : decode cX3_tellOf 16 = .ok (.if_icmp .ge 46, 3) := by decide +kernel
theorem dX3_tellOf_19 : decode cX3_tellOf 19 = .ok (.iload_n 3, 1) := by decide +kernel
theorem dX3_tellOf_20 : decode cX3_tellOf 20 = .ok (.aload_n 0, 1) := by decide +kernel
theorem dX3_tellOf_21 : decode cX3_tellOf 21 = .ok (.getfield 15, 3) := by decide +kernel
theorem dX3_tellOf_24 : decode cX3_tellOf 24 = .ok (.arraylength, 1) := by decide +kernel
theorem dX3_tellOf_25 : decode cX3_tellOf 25 = .ok (.if_icmp .ge 37, 3) := by decide +kernel
theorem dX3_tellOf_28 : decode cX3_tellOf 28 = .ok (.aload_n 0, 1) := by decide +kernel
theorem dX3_tellOf_29 : decode cX3_tellOf 29 = .ok (.getfield 9, 3) := by decide +kernel
theorem dX3_tellOf_32 : decode cX3_tellOf 32 = .ok (.iload_n 3, 1) := by decide +kernel
theorem dX3_tellOf_33 : decode cX3_tellOf 33 = .ok (.iaload, 1) := by decide +kernel
theorem dX3_tellOf_34 : decode cX3_tellOf 34 = .ok (.iload_n 2, 1) := by decide +kernel
theorem dX3_tellOf_35 : decode cX3_tellOf 35 = .ok (.if_icmp .gt 21, 3) := by decide +kernel
theorem dX3_tellOf_38 : decode cX3_tellOf 38 = .ok (.aload_n 0, 1) := by decide +kernel
theorem dX3_tellOf_39 : decode cX3_tellOf 39 = .ok (.getfield 15, 3) := by decide +kernel
theorem dX3_tellOf_42 : decode cX3_tellOf 42 = .ok (.iload_n 3, 1) := by decide +kernel
theorem dX3_tellOf_43 : decode cX3_tellOf 43 = .ok (.laload, 1) := by decide +kernel
theorem dX3_tellOf_44 : decode cX3_tellOf 44 = .ok (.iload_n 1, 1) := by decide +kernel
theorem dX3_tellOf_45 : decode cX3_tellOf 45 = .ok (.invokestatic 23, 3) := by decide +kernel
theorem dX3_tellOf_48 : decode cX3_tellOf 48 = .ok (.land, 1) := by decide +kernel
theorem dX3_tellOf_49 : decode cX3_tellOf 49 = .ok (.lconst 0, 1) := by decide +kernel
theorem dX3_tellOf_50 : decode cX3_tellOf 50 = .ok (.lcmp, 1) := by decide +kernel
theorem dX3_tellOf_51 : decode cX3_tellOf 51 = .ok (.ifCond .eq 5, 3) := by decide +kernel
theorem dX3_tellOf_54 : decode cX3_tellOf 54 = .ok (.iconst 1, 1) := by decide +kernel
theorem dX3_tellOf_55 : decode cX3_tellOf 55 = .ok (.ireturn, 1) := by decide +kernel
theorem dX3_tellOf_56 : decode cX3_tellOf 56 = .ok (.iinc 3 1, 3) := by decide +kernel
theorem dX3_tellOf_59 : decode cX3_tellOf 59 = .ok (.goto (-57), 3) := by decide +kernel
theorem dX3_tellOf_62 : decode cX3_tellOf 62 = .ok (.iconst 0, 1) := by decide +kernel
theorem dX3_tellOf_63 : decode cX3_tellOf 63 = .ok (.ireturn, 1) := by decide +kernel
theorem dX4_init_0 : decode cX4_init 0 = .ok (.aload_n 0, 1) := by decide +kernel
theorem dX4_init_1 : decode cX4_init 1 = .ok (.invokespecial 3, 3) := by decide +kernel
theorem dX4_init_4 : decode cX4_init 4 = .ok (.aload_n 0, 1) := by decide +kernel
theorem dX4_init_5 : decode cX4_init 5 = .ok (.bipush 40, 2) := by decide +kernel
theorem dX4_init_7 : decode cX4_init 7 = .ok (.newarray .long, 2) := by decide +kernel
theorem dX4_init_9 : decode cX4_init 9 = .ok (.putfield 9, 3) := by decide +kernel
theorem dX4_init_12 : decode cX4_init 12 = .ok (.aload_n 0, 1) := by decide +kernel
theorem dX4_init_13 : decode cX4_init 13 = .ok (.bipush 8, 2) := by decide +kernel
theorem dX4_init_15 : decode cX4_init 15 = .ok (.newarray .long, 2) := by decide +kernel
theorem dX4_init_17 : decode cX4_init 17 = .ok (.putfield 15, 3) := by decide +kernel
theorem dX4_init_20 : decode cX4_init 20 = .ok (.aload_n 0, 1) := by decide +kernel
theorem dX4_init_21 : decode cX4_init 21 = .ok (.new 18, 3) := by decide +kernel
theorem dX4_init_24 : decode cX4_init 24 = .ok (.dup, 1) := by decide +kernel
theorem dX4_init_25 : decode cX4_init 25 = .ok (.invokespecial 20, 3) := by decide +kernel
theorem dX4_init_28 : decode cX4_init 28 = .ok (.putfield 21, 3) := by decide +kernel
theorem dX4_init_31 : decode cX4_init 31 = .ok (.aload_n 0, 1) := by decide +kernel
theorem dX4_init_32 : decode cX4_init 32 = .ok (.iconst 0, 1) := by decide +kernel
theorem dX4_init_33 : decode cX4_init 33 = .ok (.putfield 25, 3) := by decide +kernel
theorem dX4_init_36 : decode cX4_init 36 = .ok (.return_, 1) := by decide +kernel
theorem dX4_append_0 : decode cX4_append 0 = .ok (.aload_n 0, 1) := by decide +kernel
theorem dX4_append_1 : decode cX4_append 1 = .ok (.getfield 25, 3) := by decide +kernel
theorem dX4_append_4 : decode cX4_append 4 = .ok (.ifCond .lt 90, 3) := by decide +kernel
theorem dX4_append_7 : decode cX4_append 7 = .ok (.aload_n 0, 1) := by decide +kernel
theorem dX4_append_8 : decode cX4_append 8 = .ok (.getfield 25, 3) := by decide +kernel
theorem dX4_append_11 : decode cX4_append 11 = .ok (.aload_n 0, 1) := by decide +kernel
theorem dX4_append_12 : decode cX4_append 12 = .ok (.getfield 9, 3) := by decide +kernel
theorem dX4_append_15 : decode cX4_append 15 = .ok (.arraylength, 1) := by decide +kernel
theorem dX4_append_16 : decode cX4_append 16 = .ok (.if_icmp .ge 78, 3) := by decide +kernel
theorem dX4_append_19 : decode cX4_append 19 = .ok (.aload_n 0, 1) := by decide +kernel
theorem dX4_append_20 : decode cX4_append 20 = .ok (.getfield 9, 3) := by decide +kernel
theorem dX4_append_23 : decode cX4_append 23 = .ok (.aload_n 0, 1) := by decide +kernel
theorem dX4_append_24 : decode cX4_append 24 = .ok (.getfield 25, 3) := by decide +kernel
theorem dX4_append_27 : decode cX4_append 27 = .ok (.ldc2_w 29, 3) := by decide +kernel
theorem dX4_append_30 : decode cX4_append 30 = .ok (.aload_n 1, 1) := by decide +kernel
theorem dX4_append_31 : decode cX4_append 31 = .ok (.getfield 31, 3) := by decide +kernel
theorem dX4_append_34 : decode cX4_append 34 = .ok (.i2l, 1) := by decide +kernel
theorem dX4_append_35 : decode cX4_append 35 = .ok (.lmul, 1) := by decide +kernel
theorem dX4_append_36 : decode cX4_append 36 = .ok (.ldc2_w 36, 3) := by decide +kernel
theorem dX4_append_39 : decode cX4_append 39 = .ok (.aload_n 1, 1) := by decide +kernel
theorem dX4_append_40 : decode cX4_append 40 = .ok (.getfield 38, 3) := by decide +kernel
theorem dX4_append_43 : decode cX4_append 43 = .ok (.getfield 42, 3) := by decide +kernel
theorem dX4_append_46 : decode cX4_append 46 = .ok (.i2l, 1) := by decide +kernel
theorem dX4_append_47 : decode cX4_append 47 = .ok (.lmul, 1) := by decide +kernel
theorem dX4_append_48 : decode cX4_append 48 = .ok (.ladd, 1) := by decide +kernel
theorem dX4_append_49 : decode cX4_append 49 = .ok (.ldc2_w 47, 3) := by decide +kernel
theorem dX4_append_52 : decode cX4_append 52 = .ok (.aload_n 1, 1) := by decide +kernel
theorem dX4_append_53 : decode cX4_append 53 = .ok (.getfield 38, 3) := by decide +kernel
theorem dX4_append_56 : decode cX4_append 56 = .ok (.getfield 49, 3) := by decide +kernel
theorem dX4_append_59 : decode cX4_append 59 = .ok (.i2l, 1) := by decide +kernel
theorem dX4_append_60 : decode cX4_append 60 = .ok (.lmul, 1) := by decide +kernel
theorem dX4_append_61 : decode cX4_append 61 = .ok (.ladd, 1) := by decide +kernel
theorem dX4_append_62 : decode cX4_append 62 = .ok (.ldc2_w 52, 3) := by decide +kernel
theorem dX4_append_65 : decode cX4_append 65 = .ok (.aload_n 1, 1) := by decide +kernel
theorem dX4_append_66 : decode cX4_append 66 = .ok (.getfield 54, 3) := by decide +kernel
theorem dX4_append_69 : decode cX4_append 69 = .ok (.getfield 49, 3) := by decide +kernel
theorem dX4_append_72 : decode cX4_append 72 = .ok (.i2l, 1) := by decide +kernel
theorem dX4_append_73 : decode cX4_append 73 = .ok (.lmul, 1) := by decide +kernel
theorem dX4_append_74 : decode cX4_append 74 = .ok (.ladd, 1) := by decide +kernel
theorem dX4_append_75 : decode cX4_append 75 = .ok (.ldc2_w 57, 3) := by decide +kernel
theorem dX4_append_78 : decode cX4_append 78 = .ok (.ladd, 1) := by decide +kernel
theorem dX4_append_79 : decode cX4_append 79 = .ok (.ldc2_w 59, 3) := by decide +kernel
theorem dX4_append_82 : decode cX4_append 82 = .ok (.lrem, 1) := by decide +kernel
theorem dX4_append_83 : decode cX4_append 83 = .ok (.lastore, 1) := by decide +kernel
theorem dX4_append_84 : decode cX4_append 84 = .ok (.aload_n 0, 1) := by decide +kernel
theorem dX4_append_85 : decode cX4_append 85 = .ok (.dup, 1) := by decide +kernel
theorem dX4_append_86 : decode cX4_append 86 = .ok (.getfield 25, 3) := by decide +kernel
theorem dX4_append_89 : decode cX4_append 89 = .ok (.iconst 1, 1) := by decide +kernel
theorem dX4_append_90 : decode cX4_append 90 = .ok (.iadd, 1) := by decide +kernel
theorem dX4_append_91 : decode cX4_append 91 = .ok (.putfield 25, 3) := by decide +kernel
theorem dX4_append_94 : decode cX4_append 94 = .ok (.return_, 1) := by decide +kernel
theorem dX5_init_0 : decode cX5_init 0 = .ok (.aload_n 0, 1) := by decide +kernel
theorem dX5_init_1 : decode cX5_init 1 = .ok (.invokespecial 1, 3) := by decide +kernel
theorem dX5_init_4 : decode cX5_init 4 = .ok (.aload_n 0, 1) := by decide +kernel
theorem dX5_init_5 : decode cX5_init 5 = .ok (.bipush 8, 2) := by decide +kernel
theorem dX5_init_7 : decode cX5_init 7 = .ok (.newarray .long, 2) := by decide +kernel
theorem dX5_init_9 : decode cX5_init 9 = .ok (.putfield 9, 3) := by decide +kernel
theorem dX5_init_12 : decode cX5_init 12 = .ok (.aload_n 0, 1) := by decide +kernel
theorem dX5_init_13 : decode cX5_init 13 = .ok (.bipush 8, 2) := by decide +kernel
theorem dX5_init_15 : decode cX5_init 15 = .ok (.newarray .boolean, 2) := by decide +kernel
theorem dX5_init_17 : decode cX5_init 17 = .ok (.putfield 13, 3) := by decide +kernel
theorem dX5_init_20 : decode cX5_init 20 = .ok (.aload_n 0, 1) := by decide +kernel
theorem dX5_init_21 : decode cX5_init 21 = .ok (.iconst 0, 1) := by decide +kernel
theorem dX5_init_22 : decode cX5_init 22 = .ok (.putfield 17, 3) := by decide +kernel
theorem dX5_init_25 : decode cX5_init 25 = .ok (.return_, 1) := by decide +kernel
theorem dX6_init_0 : decode cX6_init 0 = .ok (.aload_n 0, 1) := by decide +kernel
theorem dX6_init_1 : decode cX6_init 1 = .ok (.invokespecial 3, 3) := by decide +kernel
theorem dX6_init_4 : decode cX6_init 4 = .ok (.aload_n 0, 1) := by decide +kernel
theorem dX6_init_5 : decode cX6_init 5 = .ok (.bipush 40, 2) := by decide +kernel
theorem dX6_init_7 : decode cX6_init 7 = .ok (.anewarray 9, 3) := by decide +kernel
theorem dX6_init_10 : decode cX6_init 10 = .ok (.putfield 11, 3) := by decide +kernel
theorem dX6_init_13 : decode cX6_init 13 = .ok (.aload_n 0, 1) := by decide +kernel
theorem dX6_init_14 : decode cX6_init 14 = .ok (.new 15, 3) := by decide +kernel
theorem dX6_init_17 : decode cX6_init 17 = .ok (.dup, 1) := by decide +kernel
theorem dX6_init_18 : decode cX6_init 18 = .ok (.invokespecial 17, 3) := by decide +kernel
theorem dX6_init_21 : decode cX6_init 21 = .ok (.putfield 18, 3) := by decide +kernel
theorem dX6_init_24 : decode cX6_init 24 = .ok (.aload_n 0, 1) := by decide +kernel
theorem dX6_init_25 : decode cX6_init 25 = .ok (.new 22, 3) := by decide +kernel
theorem dX6_init_28 : decode cX6_init 28 = .ok (.dup, 1) := by decide +kernel
theorem dX6_init_29 : decode cX6_init 29 = .ok (.invokespecial 24, 3) := by decide +kernel
theorem dX6_init_32 : decode cX6_init 32 = .ok (.putfield 25, 3) := by decide +kernel
theorem dX6_init_35 : decode cX6_init 35 = .ok (.aload_n 0, 1) := by decide +kernel
theorem dX6_init_36 : decode cX6_init 36 = .ok (.new 29, 3) := by decide +kernel
theorem dX6_init_39 : decode cX6_init 39 = .ok (.dup, 1) := by decide +kernel
theorem dX6_init_40 : decode cX6_init 40 = .ok (.invokespecial 31, 3) := by decide +kernel
theorem dX6_init_43 : decode cX6_init 43 = .ok (.putfield 32, 3) := by decide +kernel
theorem dX6_init_46 : decode cX6_init 46 = .ok (.aload_n 0, 1) := by decide +kernel
theorem dX6_init_47 : decode cX6_init 47 = .ok (.new 29, 3) := by decide +kernel
theorem dX6_init_50 : decode cX6_init 50 = .ok (.dup, 1) := by decide +kernel
theorem dX6_init_51 : decode cX6_init 51 = .ok (.invokespecial 31, 3) := by decide +kernel
theorem dX6_init_54 : decode cX6_init 54 = .ok (.putfield 36, 3) := by decide +kernel
theorem dX6_init_57 : decode cX6_init 57 = .ok (.aload_n 0, 1) := by decide +kernel
theorem dX6_init_58 : decode cX6_init 58 = .ok (.new 29, 3) := by decide +kernel
theorem dX6_init_61 : decode cX6_init 61 = .ok (.dup, 1) := by decide +kernel
theorem dX6_init_62 : decode cX6_init 62 = .ok (.invokespecial 31, 3) := by decide +kernel
theorem dX6_init_65 : decode cX6_init 65 = .ok (.putfield 39, 3) := by decide +kernel
theorem dX6_init_68 : decode cX6_init 68 = .ok (.aload_n 0, 1) := by decide +kernel
theorem dX6_init_69 : decode cX6_init 69 = .ok (.iconst 0, 1) := by decide +kernel
theorem dX6_init_70 : decode cX6_init 70 = .ok (.putfield 42, 3) := by decide +kernel
theorem dX6_init_73 : decode cX6_init 73 = .ok (.aload_n 0, 1) := by decide +kernel
theorem dX6_init_74 : decode cX6_init 74 = .ok (.iconst 0, 1) := by decide +kernel
theorem dX6_init_75 : decode cX6_init 75 = .ok (.putfield 46, 3) := by decide +kernel
theorem dX6_init_78 : decode cX6_init 78 = .ok (.aload_n 0, 1) := by decide +kernel
theorem dX6_init_79 : decode cX6_init 79 = .ok (.iconst 0, 1) := by decide +kernel
theorem dX6_init_80 : decode cX6_init 80 = .ok (.putfield 49, 3) := by decide +kernel
theorem dX6_init_83 : decode cX6_init 83 = .ok (.return_, 1) := by decide +kernel
theorem dX6_makeRoot_0 : decode cX6_makeRoot 0 = .ok (.iload_n 1, 1) := by decide +kernel
theorem dX6_makeRoot_1 : decode cX6_makeRoot 1 = .ok (.invokestatic 52, 3) := by decide +kernel
theorem dX6_makeRoot_4 : decode cX6_makeRoot 4 = .ok (.iload_n 2, 1) := by decide +kernel
theorem dX6_makeRoot_5 : decode cX6_makeRoot 5 = .ok (.invokestatic 56, 3) := by decide +kernel
theorem dX6_makeRoot_8 : decode cX6_makeRoot 8 = .ok (.iload_n 3, 1) := by decide +kernel
theorem dX6_makeRoot_9 : decode cX6_makeRoot 9 = .ok (.invokestatic 59, 3) := by decide +kernel
theorem dX6_makeRoot_12 : decode cX6_makeRoot 12 = .ok (.aload_n 0, 1) := by decide +kernel
theorem dX6_makeRoot_13 : decode cX6_makeRoot 13 = .ok (.invokevirtual 62, 3) := by decide +kernel
theorem dX6_makeRoot_16 : decode cX6_makeRoot 16 = .ok (.aload_n 0, 1) := by decide +kernel
theorem dX6_makeRoot_17 : decode cX6_makeRoot 17 = .ok (.iload_n 1, 1) := by decide +kernel
theorem dX6_makeRoot_18 : decode cX6_makeRoot 18 = .ok (.invokevirtual 65, 3) := by decide +kernel
theorem dX6_makeRoot_21 : decode cX6_makeRoot 21 = .ok (.astore 4, 2) := by decide +kernel
theorem dX6_makeRoot_23 : decode cX6_makeRoot 23 = .ok (.aload_n 0, 1) := by decide +kernel
theorem dX6_makeRoot_24 : decode cX6_makeRoot 24 = .ok (.aload 4, 2) := by decide +kernel
theorem dX6_makeRoot_26 : decode cX6_makeRoot 26 = .ok (.aload 4, 2) := by decide +kernel
theorem dX6_makeRoot_28 : decode cX6_makeRoot 28 = .ok (.iload_n 2, 1) := by decide +kernel
theorem dX6_makeRoot_29 : decode cX6_makeRoot 29 = .ok (.iload_n 3, 1) := by decide +kernel
theorem dX6_makeRoot_30 : decode cX6_makeRoot 30 = .ok (.invokevirtual 69, 3) := by decide +kernel
theorem dX6_makeRoot_33 : decode cX6_makeRoot 33 = .ok (.ireturn, 1) := by decide +kernel
theorem dX6_issue_0 : decode cX6_issue 0 = .ok (.aload_n 0, 1) := by decide +kernel
theorem dX6_issue_1 : decode cX6_issue 1 = .ok (.iload_n 1, 1) := by decide +kernel
theorem dX6_issue_2 : decode cX6_issue 2 = .ok (.invokevirtual 73, 3) := by decide +kernel
theorem dX6_issue_5 : decode cX6_issue 5 = .ok (.astore 4, 2) := by decide +kernel
theorem dX6_issue_7 : decode cX6_issue 7 = .ok (.iload_n 2, 1) := by decide +kernel
theorem dX6_issue_8 : decode cX6_issue 8 = .ok (.invokestatic 52, 3) := by decide +kernel
theorem dX6_issue_11 : decode cX6_issue 11 = .ok (.iload_n 3, 1) := by decide +kernel
theorem dX6_issue_12 : decode cX6_issue 12 = .ok (.invokestatic 56, 3) := by decide +kernel
theorem dX6_issue_15 : decode cX6_issue 15 = .ok (.aload 4, 2) := by decide +kernel
theorem dX6_issue_17 : decode cX6_issue 17 = .ok (.invokestatic 77, 3) := by decide +kernel
theorem dX6_issue_20 : decode cX6_issue 20 = .ok (.aload_n 0, 1) := by decide +kernel
theorem dX6_issue_21 : decode cX6_issue 21 = .ok (.invokevirtual 62, 3) := by decide +kernel
theorem dX6_issue_24 : decode cX6_issue 24 = .ok (.aload_n 0, 1) := by decide +kernel
theorem dX6_issue_25 : decode cX6_issue 25 = .ok (.aload_n 0, 1) := by decide +kernel
theorem dX6_issue_26 : decode cX6_issue 26 = .ok (.iload_n 2, 1) := by decide +kernel
theorem dX6_issue_27 : decode cX6_issue 27 = .ok (.invokevirtual 65, 3) := by decide +kernel
theorem dX6_issue_30 : decode cX6_issue 30 = .ok (.aload 4, 2) := by decide +kernel
theorem dX6_issue_32 : decode cX6_issue 32 = .ok (.getfield 81, 3) := by decide +kernel
theorem dX6_issue_35 : decode cX6_issue 35 = .ok (.iload_n 3, 1) := by decide +kernel
theorem dX6_issue_36 : decode cX6_issue 36 = .ok (.iconst (-1), 1) := by decide +kernel
theorem dX6_issue_37 : decode cX6_issue 37 = .ok (.invokevirtual 69, 3) := by decide +kernel
theorem dX6_issue_40 : decode cX6_issue 40 = .ok (.ireturn, 1) := by decide +kernel
theorem dX6_issueAuthority_0 : decode cX6_issueAuthority 0 = .ok (.aload_n 0, 1) := by decide +kernel
theorem dX6_issueAuthority_1 : decode cX6_issueAuthority 1 = .ok (.iload_n 1, 1) := by decide +kernel
theorem dX6_issueAuthority_2 : decode cX6_issueAuthority 2 = .ok (.invokevirtual 73, 3) := by decide +kernel
theorem dX6_issueAuthority_5 : decode cX6_issueAuthority 5 = .ok (.astore 5, 2) := by decide +kernel
theorem dX6_issueAuthority_7 : decode cX6_issueAuthority 7 = .ok (.iload_n 2, 1) := by decide +kernel
theorem dX6_issueAuthority_8 : decode cX6_issueAuthority 8 = .ok (.invokestatic 52, 3) := by decide +kernel
theorem dX6_issueAuthority_11 : decode cX6_issueAuthority 11 = .ok (.iload_n 3, 1) := by decide +kernel
theorem dX6_issueAuthority_12 : decode cX6_issueAuthority 12 = .ok (.invokestatic 56, 3) := by decide +kernel
theorem dX6_issueAuthority_15 : decode cX6_issueAuthority 15 = .ok (.iload 4, 2) := by decide +kernel
theorem dX6_issueAuthority_17 : decode cX6_issueAuthority 17 = .ok (.invokestatic 59, 3) := by decide +kernel
theorem dX6_issueAuthority_20 : decode cX6_issueAuthority 20 = .ok (.aload 5, 2) := by decide +kernel
theorem dX6_issueAuthority_22 : decode cX6_issueAuthority 22 = .ok (.invokestatic 77, 3) := by decide +kernel
theorem dX6_issueAuthority_25 : decode cX6_issueAuthority 25 = .ok (.aload_n 0, 1) := by decide +kernel
theorem dX6_issueAuthority_26 : decode cX6_issueAuthority 26 = .ok (.invokevirtual 62, 3) := by decide +kernel
theorem dX6_issueAuthority_29 : decode cX6_issueAuthority 29 = .ok (.aload_n 0, 1) := by decide +kernel
theorem dX6_issueAuthority_30 : decode cX6_issueAuthority 30 = .ok (.aload_n 0, 1) := by decide +kernel
theorem dX6_issueAuthority_31 : decode cX6_issueAuthority 31 = .ok (.iload_n 2, 1) := by decide +kernel
theorem dX6_issueAuthority_32 : decode cX6_issueAuthority 32 = .ok (.invokevirtual 65, 3) := by decide +kernel
theorem dX6_issueAuthority_35 : decode cX6_issueAuthority 35 = .ok (.aload 5, 2) := by decide +kernel
theorem dX6_issueAuthority_37 : decode cX6_issueAuthority 37 = .ok (.getfield 81, 3) := by decide +kernel
theorem dX6_issueAuthority_40 : decode cX6_issueAuthority 40 = .ok (.iload_n 3, 1) := by decide +kernel
theorem dX6_issueAuthority_41 : decode cX6_issueAuthority 41 = .ok (.iload 4, 2) := by decide +kernel
theorem dX6_issueAuthority_43 : decode cX6_issueAuthority 43 = .ok (.invokevirtual 69, 3) := by decide +kernel
theorem dX6_issueAuthority_46 : decode cX6_issueAuthority 46 = .ok (.ireturn, 1) := by decide +kernel
theorem dX6_cross_0 : decode cX6_cross 0 = .ok (.aload_n 0, 1) := by decide +kernel
theorem dX6_cross_1 : decode cX6_cross 1 = .ok (.iload_n 1, 1) := by decide +kernel
theorem dX6_cross_2 : decode cX6_cross 2 = .ok (.invokevirtual 73, 3) := by decide +kernel
theorem dX6_cross_5 : decode cX6_cross 5 = .ok (.astore 5, 2) := by decide +kernel
theorem dX6_cross_7 : decode cX6_cross 7 = .ok (.aload_n 0, 1) := by decide +kernel
theorem dX6_cross_8 : decode cX6_cross 8 = .ok (.iload_n 2, 1) := by decide +kernel
theorem dX6_cross_9 : decode cX6_cross 9 = .ok (.invokevirtual 73, 3) := by decide +kernel
theorem dX6_cross_12 : decode cX6_cross 12 = .ok (.astore 6, 2) := by decide +kernel
theorem dX6_cross_14 : decode cX6_cross 14 = .ok (.iload_n 3, 1) := by decide +kernel
theorem dX6_cross_15 : decode cX6_cross 15 = .ok (.invokestatic 56, 3) := by decide +kernel
theorem dX6_cross_18 : decode cX6_cross 18 = .ok (.iload 4, 2) := by decide +kernel
theorem dX6_cross_20 : decode cX6_cross 20 = .ok (.invokestatic 59, 3) := by decide +kernel
theorem dX6_cross_23 : decode cX6_cross 23 = .ok (.aload 5, 2) := by decide +kernel
theorem dX6_cross_25 : decode cX6_cross 25 = .ok (.invokestatic 77, 3) := by decide +kernel
theorem dX6_cross_28 : decode cX6_cross 28 = .ok (.aload 6, 2) := by decide +kernel
theorem dX6_cross_30 : decode cX6_cross 30 = .ok (.invokestatic 77, 3) := by decide +kernel
theorem dX6_cross_33 : decode cX6_cross 33 = .ok (.aload 6, 2) := by decide +kernel
theorem dX6_cross_35 : decode cX6_cross 35 = .ok (.getfield 81, 3) := by decide +kernel
theorem dX6_cross_38 : decode cX6_cross 38 = .ok (.aload 5, 2) := by decide +kernel
theorem dX6_cross_40 : decode cX6_cross 40 = .ok (.getfield 81, 3) := by decide +kernel
theorem dX6_cross_43 : decode cX6_cross 43 = .ok (.if_acmp .ne 13, 3) := by decide +kernel
theorem dX6_cross_46 : decode cX6_cross 46 = .ok (.new 85, 3) := by decide +kernel
theorem dX6_cross_49 : decode cX6_cross 49 = .ok (.dup, 1) := by decide +kernel
theorem dX6_cross_50 : decode cX6_cross 50 = .ok (.ldc 87, 2) := by decide +kernel
theorem dX6_cross_52 : decode cX6_cross 52 = .ok (.invokespecial 89, 3) := by decide +kernel
theorem dX6_cross_55 : decode cX6_cross 55 = .ok (.athrow, 1) := by decide +kernel
theorem dX6_cross_56 : decode cX6_cross 56 = .ok (.aload 6, 2) := by decide +kernel
theorem dX6_cross_58 : decode cX6_cross 58 = .ok (.getfield 81, 3) := by decide +kernel
theorem dX6_cross_61 : decode cX6_cross 61 = .ok (.invokevirtual 92, 3) := by decide +kernel
theorem dX6_cross_64 : decode cX6_cross 64 = .ok (.ifCond .eq 13, 3) := by decide +kernel
theorem dX6_cross_67 : decode cX6_cross 67 = .ok (.new 85, 3) := by decide +kernel
theorem dX6_cross_70 : decode cX6_cross 70 = .ok (.dup, 1) := by decide +kernel
theorem dX6_cross_71 : decode cX6_cross 71 = .ok (.ldc 98, 2) := by decide +kernel
theorem dX6_cross_73 : decode cX6_cross 73 = .ok (.invokespecial 89, 3) := by decide +kernel
theorem dX6_cross_76 : decode cX6_cross 76 = .ok (.athrow, 1) := by decide +kernel
theorem dX6_cross_77 : decode cX6_cross 77 = .ok (.aload_n 0, 1) := by decide +kernel
theorem dX6_cross_78 : decode cX6_cross 78 = .ok (.invokevirtual 62, 3) := by decide +kernel
theorem dX6_cross_81 : decode cX6_cross 81 = .ok (.aload_n 0, 1) := by decide +kernel
theorem dX6_cross_82 : decode cX6_cross 82 = .ok (.aload 6, 2) := by decide +kernel
theorem dX6_cross_84 : decode cX6_cross 84 = .ok (.getfield 81, 3) := by decide +kernel
theorem dX6_cross_87 : decode cX6_cross 87 = .ok (.aload 5, 2) := by decide +kernel
theorem dX6_cross_89 : decode cX6_cross 89 = .ok (.getfield 81, 3) := by decide +kernel
theorem dX6_cross_92 : decode cX6_cross 92 = .ok (.iload_n 3, 1) := by decide +kernel
theorem dX6_cross_93 : decode cX6_cross 93 = .ok (.iload 4, 2) := by decide +kernel
theorem dX6_cross_95 : decode cX6_cross 95 = .ok (.invokevirtual 69, 3) := by decide +kernel
theorem dX6_cross_98 : decode cX6_cross 98 = .ok (.ireturn, 1) := by decide +kernel
theorem dX6_setNames_0 : decode cX6_setNames 0 = .ok (.aload_n 0, 1) := by decide +kernel
theorem dX6_setNames_1 : decode cX6_setNames 1 = .ok (.iload_n 1, 1) := by decide +kernel
theorem dX6_setNames_2 : decode cX6_setNames 2 = .ok (.invokevirtual 73, 3) := by decide +kernel
theorem dX6_setNames_5 : decode cX6_setNames 5 = .ok (.astore 4, 2) := by decide +kernel
theorem dX6_setNames_7 : decode cX6_setNames 7 = .ok (.iload_n 2, 1) := by decide +kernel
theorem dX6_setNames_8 : decode cX6_setNames 8 = .ok (.invokestatic 100, 3) := by decide +kernel
theorem dX6_setNames_11 : decode cX6_setNames 11 = .ok (.iload_n 3, 1) := by decide +kernel
theorem dX6_setNames_12 : decode cX6_setNames 12 = .ok (.invokestatic 100, 3) := by decide +kernel
theorem dX6_setNames_15 : decode cX6_setNames 15 = .ok (.aload 4, 2) := by decide +kernel
theorem dX6_setNames_17 : decode cX6_setNames 17 = .ok (.invokestatic 77, 3) := by decide +kernel
theorem dX6_setNames_20 : decode cX6_setNames 20 = .ok (.aload_n 0, 1) := by decide +kernel
theorem dX6_setNames_21 : decode cX6_setNames 21 = .ok (.aload 4, 2) := by decide +kernel
theorem dX6_setNames_23 : decode cX6_setNames 23 = .ok (.getfield 81, 3) := by decide +kernel
theorem dX6_setNames_26 : decode cX6_setNames 26 = .ok (.invokevirtual 103, 3) := by decide +kernel
theorem dX6_setNames_29 : decode cX6_setNames 29 = .ok (.ifCond .eq 13, 3) := by decide +kernel
theorem dX6_setNames_32 : decode cX6_setNames 32 = .ok (.new 85, 3) := by decide +kernel
theorem dX6_setNames_35 : decode cX6_setNames 35 = .ok (.dup, 1) := by decide +kernel
theorem dX6_setNames_36 : decode cX6_setNames 36 = .ok (.ldc 107, 2) := by decide +kernel
theorem dX6_setNames_38 : decode cX6_setNames 38 = .ok (.invokespecial 89, 3) := by decide +kernel
theorem dX6_setNames_41 : decode cX6_setNames 41 = .ok (.athrow, 1) := by decide +kernel
theorem dX6_setNames_42 : decode cX6_setNames 42 = .ok (.aload 4, 2) := by decide +kernel
theorem dX6_setNames_44 : decode cX6_setNames 44 = .ok (.iload_n 2, 1) := by decide +kernel
theorem dX6_setNames_45 : decode cX6_setNames 45 = .ok (.putfield 109, 3) := by decide +kernel
theorem dX6_setNames_48 : decode cX6_setNames 48 = .ok (.aload 4, 2) := by decide +kernel
theorem dX6_setNames_50 : decode cX6_setNames 50 = .ok (.iload_n 3, 1) := by decide +kernel
theorem dX6_setNames_51 : decode cX6_setNames 51 = .ok (.putfield 112, 3) := by decide +kernel
theorem dX6_setNames_54 : decode cX6_setNames 54 = .ok (.iload_n 2, 1) := by decide +kernel
theorem dX6_setNames_55 : decode cX6_setNames 55 = .ok (.ifCond .ne 7, 3) := by decide +kernel
theorem dX6_setNames_58 : decode cX6_setNames 58 = .ok (.iconst 0, 1) := by decide +kernel
theorem dX6_setNames_59 : decode cX6_setNames 59 = .ok (.goto 4, 3) := by decide +kernel
theorem dX6_setNames_62 : decode cX6_setNames 62 = .ok (.iconst 1, 1) := by decide +kernel
theorem dX6_setNames_63 : decode cX6_setNames 63 = .ok (.iload_n 3, 1) := by decide +kernel
theorem dX6_setNames_64 : decode cX6_setNames 64 = .ok (.ifCond .ne 7, 3) := by decide +kernel
theorem dX6_setNames_67 : decode cX6_setNames 67 = .ok (.iconst 0, 1) := by decide +kernel
theorem dX6_setNames_68 : decode cX6_setNames 68 = .ok (.goto 4, 3) := by decide +kernel
theorem dX6_setNames_71 : decode cX6_setNames 71 = .ok (.iconst 1, 1) := by decide +kernel
theorem dX6_setNames_72 : decode cX6_setNames 72 = .ok (.iadd, 1) := by decide +kernel
theorem dX6_setNames_73 : decode cX6_setNames 73 = .ok (.ireturn, 1) := by decide +kernel
theorem dX6_trust_0 : decode cX6_trust 0 = .ok (.aload_n 0, 1) := by decide +kernel
theorem dX6_trust_1 : decode cX6_trust 1 = .ok (.iload_n 1, 1) := by decide +kernel
theorem dX6_trust_2 : decode cX6_trust 2 = .ok (.invokevirtual 73, 3) := by decide +kernel
theorem dX6_trust_5 : decode cX6_trust 5 = .ok (.astore_n 3, 1) := by decide +kernel
theorem dX6_trust_6 : decode cX6_trust 6 = .ok (.aload_n 3, 1) := by decide +kernel
theorem dX6_trust_7 : decode cX6_trust 7 = .ok (.invokevirtual 115, 3) := by decide +kernel
theorem dX6_trust_10 : decode cX6_trust 10 = .ok (.ifCond .ne 13, 3) := by decide +kernel
theorem dX6_trust_13 : decode cX6_trust 13 = .ok (.new 85, 3) := by decide +kernel
theorem dX6_trust_16 : decode cX6_trust 16 = .ok (.dup, 1) := by decide +kernel
theorem dX6_trust_17 : decode cX6_trust 17 = .ok (.ldc 118, 2) := by decide +kernel
theorem dX6_trust_19 : decode cX6_trust 19 = .ok (.invokespecial 89, 3) := by decide +kernel
theorem dX6_trust_22 : decode cX6_trust 22 = .ok (.athrow, 1) := by decide +kernel
theorem dX6_trust_23 : decode cX6_trust 23 = .ok (.aload_n 3, 1) := by decide +kernel
theorem dX6_trust_24 : decode cX6_trust 24 = .ok (.iload_n 2, 1) := by decide +kernel
theorem dX6_trust_25 : decode cX6_trust 25 = .ok (.putfield 120, 3) := by decide +kernel
theorem dX6_trust_28 : decode cX6_trust 28 = .ok (.aload_n 0, 1) := by decide +kernel
theorem dX6_trust_29 : decode cX6_trust 29 = .ok (.invokevirtual 124, 3) := by decide +kernel
theorem dX6_trust_32 : decode cX6_trust 32 = .ok (.ireturn, 1) := by decide +kernel
theorem dX6_revoke_0 : decode cX6_revoke 0 = .ok (.aload_n 0, 1) := by decide +kernel
theorem dX6_revoke_1 : decode cX6_revoke 1 = .ok (.iload_n 1, 1) := by decide +kernel
theorem dX6_revoke_2 : decode cX6_revoke 2 = .ok (.invokevirtual 73, 3) := by decide +kernel
theorem dX6_revoke_5 : decode cX6_revoke 5 = .ok (.astore_n 2, 1) := by decide +kernel
theorem dX6_revoke_6 : decode cX6_revoke 6 = .ok (.aload_n 2, 1) := by decide +kernel
theorem dX6_revoke_7 : decode cX6_revoke 7 = .ok (.invokevirtual 115, 3) := by decide +kernel
theorem dX6_revoke_10 : decode cX6_revoke 10 = .ok (.ifCond .eq 13, 3) := by decide +kernel
theorem dX6_revoke_13 : decode cX6_revoke 13 = .ok (.new 85, 3) := by decide +kernel
theorem dX6_revoke_16 : decode cX6_revoke 16 = .ok (.dup, 1) := by decide +kernel
theorem dX6_revoke_17 : decode cX6_revoke 17 = .ok (.ldc 128, 2) := by decide +kernel
theorem dX6_revoke_19 : decode cX6_revoke 19 = .ok (.invokespecial 89, 3) := by decide +kernel
theorem dX6_revoke_22 : decode cX6_revoke 22 = .ok (.athrow, 1) := by decide +kernel
theorem dX6_revoke_23 : decode cX6_revoke 23 = .ok (.aload_n 2, 1) := by decide +kernel
theorem dX6_revoke_24 : decode cX6_revoke 24 = .ok (.getfield 130, 3) := by decide +kernel
theorem dX6_revoke_27 : decode cX6_revoke 27 = .ok (.ifCond .eq 13, 3) := by decide +kernel
theorem dX6_revoke_30 : decode cX6_revoke 30 = .ok (.new 85, 3) := by decide +kernel
theorem dX6_revoke_33 : decode cX6_revoke 33 = .ok (.dup, 1) := by decide +kernel
theorem dX6_revoke_34 : decode cX6_revoke 34 = .ok (.ldc 133, 2) := by decide +kernel
theorem dX6_revoke_36 : decode cX6_revoke 36 = .ok (.invokespecial 89, 3) := by decide +kernel
theorem dX6_revoke_39 : decode cX6_revoke 39 = .ok (.athrow, 1) := by decide +kernel
theorem dX6_revoke_40 : decode cX6_revoke 40 = .ok (.aload_n 2, 1) := by decide +kernel
theorem dX6_revoke_41 : decode cX6_revoke 41 = .ok (.iconst 1, 1) := by decide +kernel
theorem dX6_revoke_42 : decode cX6_revoke 42 = .ok (.putfield 130, 3) := by decide +kernel
theorem dX6_revoke_45 : decode cX6_revoke 45 = .ok (.aload_n 0, 1) := by decide +kernel
theorem dX6_revoke_46 : decode cX6_revoke 46 = .ok (.aload_n 2, 1) := by decide +kernel
theorem dX6_revoke_47 : decode cX6_revoke 47 = .ok (.getfield 135, 3) := by decide +kernel
theorem dX6_revoke_50 : decode cX6_revoke 50 = .ok (.invokevirtual 138, 3) := by decide +kernel
theorem dX6_revoke_53 : decode cX6_revoke 53 = .ok (.ireturn, 1) := by decide +kernel
theorem dX6_publish_0 : decode cX6_publish 0 = .ok (.aload_n 0, 1) := by decide +kernel
theorem dX6_publish_1 : decode cX6_publish 1 = .ok (.iload_n 1, 1) := by decide +kernel
theorem dX6_publish_2 : decode cX6_publish 2 = .ok (.invokevirtual 73, 3) := by decide +kernel
theorem dX6_publish_5 : decode cX6_publish 5 = .ok (.astore_n 2, 1) := by decide +kernel
theorem dX6_publish_6 : decode cX6_publish 6 = .ok (.aload_n 2, 1) := by decide +kernel
theorem dX6_publish_7 : decode cX6_publish 7 = .ok (.invokestatic 77, 3) := by decide +kernel
theorem dX6_publish_10 : decode cX6_publish 10 = .ok (.aload_n 0, 1) := by decide +kernel
theorem dX6_publish_11 : decode cX6_publish 11 = .ok (.aload_n 2, 1) := by decide +kernel
theorem dX6_publish_12 : decode cX6_publish 12 = .ok (.getfield 81, 3) := by decide +kernel
theorem dX6_publish_15 : decode cX6_publish 15 = .ok (.invokevirtual 138, 3) := by decide +kernel
theorem dX6_publish_18 : decode cX6_publish 18 = .ok (.istore_n 3, 1) := by decide +kernel
theorem dX6_publish_19 : decode cX6_publish 19 = .ok (.iload_n 3, 1) := by decide +kernel
theorem dX6_publish_20 : decode cX6_publish 20 = .ok (.ifCond .le 22, 3) := by decide +kernel
theorem dX6_publish_23 : decode cX6_publish 23 = .ok (.aload_n 0, 1) := by decide +kernel
theorem dX6_publish_24 : decode cX6_publish 24 = .ok (.getfield 18, 3) := by decide +kernel
theorem dX6_publish_27 : decode cX6_publish 27 = .ok (.aload_n 0, 1) := by decide +kernel
theorem dX6_publish_28 : decode cX6_publish 28 = .ok (.getfield 49, 3) := by decide +kernel
theorem dX6_publish_31 : decode cX6_publish 31 = .ok (.aload_n 0, 1) := by decide +kernel
theorem dX6_publish_32 : decode cX6_publish 32 = .ok (.aload_n 2, 1) := by decide +kernel
theorem dX6_publish_33 : decode cX6_publish 33 = .ok (.getfield 81, 3) := by decide +kernel
theorem dX6_publish_36 : decode cX6_publish 36 = .ok (.invokevirtual 142, 3) := by decide +kernel
theorem dX6_publish_39 : decode cX6_publish 39 = .ok (.invokevirtual 146, 3) := by decide +kernel
theorem dX6_publish_42 : decode cX6_publish 42 = .ok (.iload_n 3, 1) := by decide +kernel
theorem dX6_publish_43 : decode cX6_publish 43 = .ok (.ireturn, 1) := by decide +kernel
theorem dX6_pass_0 : decode cX6_pass 0 = .ok (.iload_n 1, 1) := by decide +kernel
theorem dX6_pass_1 : decode cX6_pass 1 = .ok (.invokestatic 56, 3) := by decide +kernel
theorem dX6_pass_4 : decode cX6_pass 4 = .ok (.aload_n 0, 1) := by decide +kernel
theorem dX6_pass_5 : decode cX6_pass 5 = .ok (.dup, 1) := by decide +kernel
theorem dX6_pass_6 : decode cX6_pass 6 = .ok (.getfield 49, 3) := by decide +kernel
theorem dX6_pass_9 : decode cX6_pass 9 = .ok (.iload_n 1, 1) := by decide +kernel
theorem dX6_pass_10 : decode cX6_pass 10 = .ok (.iadd, 1) := by decide +kernel
theorem dX6_pass_11 : decode cX6_pass 11 = .ok (.putfield 49, 3) := by decide +kernel
theorem dX6_pass_14 : decode cX6_pass 14 = .ok (.aload_n 0, 1) := by decide +kernel
theorem dX6_pass_15 : decode cX6_pass 15 = .ok (.getfield 49, 3) := by decide +kernel
theorem dX6_pass_18 : decode cX6_pass 18 = .ok (.ireturn, 1) := by decide +kernel
theorem dX6_day_0 : decode cX6_day 0 = .ok (.aload_n 0, 1) := by decide +kernel
theorem dX6_day_1 : decode cX6_day 1 = .ok (.getfield 49, 3) := by decide +kernel
theorem dX6_day_4 : decode cX6_day 4 = .ok (.ireturn, 1) := by decide +kernel
theorem dX6_certificates_0 : decode cX6_certificates 0 = .ok (.aload_n 0, 1) := by decide +kernel
theorem dX6_certificates_1 : decode cX6_certificates 1 = .ok (.getfield 42, 3) := by decide +kernel
theorem dX6_certificates_4 : decode cX6_certificates 4 = .ok (.ireturn, 1) := by decide +kernel
theorem dX6_nameOf_0 : decode cX6_nameOf 0 = .ok (.aload_n 0, 1) := by decide +kernel
theorem dX6_nameOf_1 : decode cX6_nameOf 1 = .ok (.iload_n 1, 1) := by decide +kernel
theorem dX6_nameOf_2 : decode cX6_nameOf 2 = .ok (.invokevirtual 73, 3) := by decide +kernel
theorem dX6_nameOf_5 : decode cX6_nameOf 5 = .ok (.getfield 81, 3) := by decide +kernel
theorem dX6_nameOf_8 : decode cX6_nameOf 8 = .ok (.getfield 150, 3) := by decide +kernel
theorem dX6_nameOf_11 : decode cX6_nameOf 11 = .ok (.ireturn, 1) := by decide +kernel
theorem dX6_keyOf_0 : decode cX6_keyOf 0 = .ok (.aload_n 0, 1) := by decide +kernel
theorem dX6_keyOf_1 : decode cX6_keyOf 1 = .ok (.iload_n 1, 1) := by decide +kernel
theorem dX6_keyOf_2 : decode cX6_keyOf 2 = .ok (.invokevirtual 73, 3) := by decide +kernel
theorem dX6_keyOf_5 : decode cX6_keyOf 5 = .ok (.getfield 81, 3) := by decide +kernel
theorem dX6_keyOf_8 : decode cX6_keyOf 8 = .ok (.getfield 153, 3) := by decide +kernel
theorem dX6_keyOf_11 : decode cX6_keyOf 11 = .ok (.ireturn, 1) := by decide +kernel
theorem dX6_issuerKeyOf_0 : decode cX6_issuerKeyOf 0 = .ok (.aload_n 0, 1) := by decide +kernel
theorem dX6_issuerKeyOf_1 : decode cX6_issuerKeyOf 1 = .ok (.iload_n 1, 1) := by decide +kernel
theorem dX6_issuerKeyOf_2 : decode cX6_issuerKeyOf 2 = .ok (.invokevirtual 73, 3) := by decide +kernel
theorem dX6_issuerKeyOf_5 : decode cX6_issuerKeyOf 5 = .ok (.getfield 135, 3) := by decide +kernel
theorem dX6_issuerKeyOf_8 : decode cX6_issuerKeyOf 8 = .ok (.getfield 153, 3) := by decide +kernel
theorem dX6_issuerKeyOf_11 : decode cX6_issuerKeyOf 11 = .ok (.ireturn, 1) := by decide +kernel
theorem dX6_lastDayOf_0 : decode cX6_lastDayOf 0 = .ok (.aload_n 0, 1) := by decide +kernel
theorem dX6_lastDayOf_1 : decode cX6_lastDayOf 1 = .ok (.iload_n 1, 1) := by decide +kernel
theorem dX6_lastDayOf_2 : decode cX6_lastDayOf 2 = .ok (.invokevirtual 73, 3) := by decide +kernel
theorem dX6_lastDayOf_5 : decode cX6_lastDayOf 5 = .ok (.getfield 156, 3) := by decide +kernel
theorem dX6_lastDayOf_8 : decode cX6_lastDayOf 8 = .ok (.ireturn, 1) := by decide +kernel
theorem dX6_kindOf_0 : decode cX6_kindOf 0 = .ok (.aload_n 0, 1) := by decide +kernel
theorem dX6_kindOf_1 : decode cX6_kindOf 1 = .ok (.iload_n 1, 1) := by decide +kernel
theorem dX6_kindOf_2 : decode cX6_kindOf 2 = .ok (.invokevirtual 73, 3) := by decide +kernel
theorem dX6_kindOf_5 : decode cX6_kindOf 5 = .ok (.astore_n 2, 1) := by decide +kernel
theorem dX6_kindOf_6 : decode cX6_kindOf 6 = .ok (.aload_n 2, 1) := by decide +kernel
theorem dX6_kindOf_7 : decode cX6_kindOf 7 = .ok (.invokevirtual 115, 3) := by decide +kernel
theorem dX6_kindOf_10 : decode cX6_kindOf 10 = .ok (.ifCond .eq 6, 3) := by decide +kernel
theorem dX6_kindOf_13 : decode cX6_kindOf 13 = .ok (.bipush 114, 2) := by decide +kernel
theorem dX6_kindOf_15 : decode cX6_kindOf 15 = .ok (.ireturn, 1) := by decide +kernel
theorem dX6_kindOf_16 : decode cX6_kindOf 16 = .ok (.aload_n 2, 1) := by decide +kernel
theorem dX6_kindOf_17 : decode cX6_kindOf 17 = .ok (.invokevirtual 159, 3) := by decide +kernel
theorem dX6_kindOf_20 : decode cX6_kindOf 20 = .ok (.ifCond .eq 8, 3) := by decide +kernel
theorem dX6_kindOf_23 : decode cX6_kindOf 23 = .ok (.bipush 97, 2) := by decide +kernel
theorem dX6_kindOf_25 : decode cX6_kindOf 25 = .ok (.goto 5, 3) := by decide +kernel
theorem dX6_kindOf_28 : decode cX6_kindOf 28 = .ok (.bipush 101, 2) := by decide +kernel
theorem dX6_kindOf_30 : decode cX6_kindOf 30 = .ok (.ireturn, 1) := by decide +kernel
theorem dX6_isRevoked_0 : decode cX6_isRevoked 0 = .ok (.aload_n 0, 1) := by decide +kernel
theorem dX6_isRevoked_1 : decode cX6_isRevoked 1 = .ok (.iload_n 1, 1) := by decide +kernel
theorem dX6_isRevoked_2 : decode cX6_isRevoked 2 = .ok (.invokevirtual 73, 3) := by decide +kernel
theorem dX6_isRevoked_5 : decode cX6_isRevoked 5 = .ok (.astore_n 3, 1) := by decide +kernel
theorem dX6_isRevoked_6 : decode cX6_isRevoked 6 = .ok (.iload_n 2, 1) := by decide +kernel
theorem dX6_isRevoked_7 : decode cX6_isRevoked 7 = .ok (.invokestatic 166, 3) := by decide +kernel
theorem dX6_isRevoked_10 : decode cX6_isRevoked 10 = .ok (.aload_n 3, 1) := by decide +kernel
theorem dX6_isRevoked_11 : decode cX6_isRevoked 11 = .ok (.iload_n 2, 1) := by decide +kernel
theorem dX6_isRevoked_12 : decode cX6_isRevoked 12 = .ok (.invokevirtual 169, 3) := by decide +kernel
theorem dX6_isRevoked_15 : decode cX6_isRevoked 15 = .ok (.ireturn, 1) := by decide +kernel
theorem dX6_isRevokedByLists_0 : decode cX6_isRevokedByLists 0 = .ok (.aload_n 0, 1) := by decide +kernel
theorem dX6_isRevokedByLists_1 : decode cX6_isRevokedByLists 1 = .ok (.iload_n 1, 1) := by decide +kernel
theorem dX6_isRevokedByLists_2 : decode cX6_isRevokedByLists 2 = .ok (.invokevirtual 73, 3) := by decide +kernel
theorem dX6_isRevokedByLists_5 : decode cX6_isRevokedByLists 5 = .ok (.astore_n 3, 1) := by decide +kernel
theorem dX6_isRevokedByLists_6 : decode cX6_isRevokedByLists 6 = .ok (.iload_n 2, 1) := by decide +kernel
theorem dX6_isRevokedByLists_7 : decode cX6_isRevokedByLists 7 = .ok (.invokestatic 166, 3) := by decide +kernel
theorem dX6_isRevokedByLists_10 : decode cX6_isRevokedByLists 10 = .ok (.aload_n 0, 1) := by decide +kernel
theorem dX6_isRevokedByLists_11 : decode cX6_isRevokedByLists 11 = .ok (.getfield 18, 3) := by decide +kernel
theorem dX6_isRevokedByLists_14 : decode cX6_isRevokedByLists 14 = .ok (.aload_n 3, 1) := by decide +kernel
theorem dX6_isRevokedByLists_15 : decode cX6_isRevokedByLists 15 = .ok (.getfield 173, 3) := by decide +kernel
theorem dX6_isRevokedByLists_18 : decode cX6_isRevokedByLists 18 = .ok (.iload_n 2, 1) := by decide +kernel
theorem dX6_isRevokedByLists_19 : decode cX6_isRevokedByLists 19 = .ok (.invokevirtual 176, 3) := by decide +kernel
theorem dX6_isRevokedByLists_22 : decode cX6_isRevokedByLists 22 = .ok (.ireturn, 1) := by decide +kernel
theorem dX6_candidates_0 : decode cX6_candidates 0 = .ok (.aload_n 0, 1) := by decide +kernel
theorem dX6_candidates_1 : decode cX6_candidates 1 = .ok (.iload_n 1, 1) := by decide +kernel
theorem dX6_candidates_2 : decode cX6_candidates 2 = .ok (.invokevirtual 73, 3) := by decide +kernel
theorem dX6_candidates_5 : decode cX6_candidates 5 = .ok (.invokevirtual 179, 3) := by decide +kernel
theorem dX6_candidates_8 : decode cX6_candidates 8 = .ok (.ireturn, 1) := by decide +kernel
theorem dX6_candidateAt_0 : decode cX6_candidateAt 0 = .ok (.aload_n 0, 1) := by decide +kernel
theorem dX6_candidateAt_1 : decode cX6_candidateAt 1 = .ok (.aload_n 0, 1) := by decide +kernel
theorem dX6_candidateAt_2 : decode cX6_candidateAt 2 = .ok (.iload_n 1, 1) := by decide +kernel
theorem dX6_candidateAt_3 : decode cX6_candidateAt 3 = .ok (.invokevirtual 73, 3) := by decide +kernel
theorem dX6_candidateAt_6 : decode cX6_candidateAt 6 = .ok (.iload_n 2, 1) := by decide +kernel
theorem dX6_candidateAt_7 : decode cX6_candidateAt 7 = .ok (.invokevirtual 182, 3) := by decide +kernel
theorem dX6_candidateAt_10 : decode cX6_candidateAt 10 = .ok (.getfield 173, 3) := by decide +kernel
theorem dX6_candidateAt_13 : decode cX6_candidateAt 13 = .ok (.ireturn, 1) := by decide +kernel
theorem dX6_chainSize_0 : decode cX6_chainSize 0 = .ok (.aload_n 0, 1) := by decide +kernel
theorem dX6_chainSize_1 : decode cX6_chainSize 1 = .ok (.iload_n 1, 1) := by decide +kernel
theorem dX6_chainSize_2 : decode cX6_chainSize 2 = .ok (.invokevirtual 73, 3) := by decide +kernel
theorem dX6_chainSize_5 : decode cX6_chainSize 5 = .ok (.astore_n 3, 1) := by decide +kernel
theorem dX6_chainSize_6 : decode cX6_chainSize 6 = .ok (.iload_n 2, 1) := by decide +kernel
theorem dX6_chainSize_7 : decode cX6_chainSize 7 = .ok (.invokestatic 166, 3) := by decide +kernel
theorem dX6_chainSize_10 : decode cX6_chainSize 10 = .ok (.aload_n 0, 1) := by decide +kernel
theorem dX6_chainSize_11 : decode cX6_chainSize 11 = .ok (.aload_n 3, 1) := by decide +kernel
theorem dX6_chainSize_12 : decode cX6_chainSize 12 = .ok (.iload_n 2, 1) := by decide +kernel
theorem dX6_chainSize_13 : decode cX6_chainSize 13 = .ok (.invokevirtual 186, 3) := by decide +kernel
theorem dX6_chainSize_16 : decode cX6_chainSize 16 = .ok (.ireturn, 1) := by decide +kernel
theorem dX6_chainAt_0 : decode cX6_chainAt 0 = .ok (.aload_n 0, 1) := by decide +kernel
theorem dX6_chainAt_1 : decode cX6_chainAt 1 = .ok (.iload_n 1, 1) := by decide +kernel
theorem dX6_chainAt_2 : decode cX6_chainAt 2 = .ok (.invokevirtual 73, 3) := by decide +kernel
theorem dX6_chainAt_5 : decode cX6_chainAt 5 = .ok (.astore 4, 2) := by decide +kernel
theorem dX6_chainAt_7 : decode cX6_chainAt 7 = .ok (.iload_n 2, 1) := by decide +kernel
theorem dX6_chainAt_8 : decode cX6_chainAt 8 = .ok (.invokestatic 166, 3) := by decide +kernel
theorem dX6_chainAt_11 : decode cX6_chainAt 11 = .ok (.aload_n 0, 1) := by decide +kernel
theorem dX6_chainAt_12 : decode cX6_chainAt 12 = .ok (.aload 4, 2) := by decide +kernel
theorem dX6_chainAt_14 : decode cX6_chainAt 14 = .ok (.iload_n 2, 1) := by decide +kernel
theorem dX6_chainAt_15 : decode cX6_chainAt 15 = .ok (.invokevirtual 186, 3) := by decide +kernel
theorem dX6_chainAt_18 : decode cX6_chainAt 18 = .ok (.pop, 1) := by decide +kernel
theorem dX6_chainAt_19 : decode cX6_chainAt 19 = .ok (.aload_n 0, 1) := by decide +kernel
theorem dX6_chainAt_20 : decode cX6_chainAt 20 = .ok (.getfield 39, 3) := by decide +kernel
theorem dX6_chainAt_23 : decode cX6_chainAt 23 = .ok (.iload_n 3, 1) := by decide +kernel
theorem dX6_chainAt_24 : decode cX6_chainAt 24 = .ok (.invokevirtual 190, 3) := by decide +kernel
theorem dX6_chainAt_27 : decode cX6_chainAt 27 = .ok (.astore 5, 2) := by decide +kernel
theorem dX6_chainAt_29 : decode cX6_chainAt 29 = .ok (.aload 5, 2) := by decide +kernel
theorem dX6_chainAt_31 : decode cX6_chainAt 31 = .ok (.ifnonnull 13, 3) := by decide +kernel
theorem dX6_chainAt_34 : decode cX6_chainAt 34 = .ok (.new 193, 3) := by decide +kernel
theorem dX6_chainAt_37 : decode cX6_chainAt 37 = .ok (.dup, 1) := by decide +kernel
theorem dX6_chainAt_38 : decode cX6_chainAt 38 = .ok (.ldc 195, 2) := by decide +kernel
theorem dX6_chainAt_40 : decode cX6_chainAt 40 = .ok (.invokespecial 197, 3) := by decide +kernel
theorem dX6_chainAt_43 : decode cX6_chainAt 43 = .ok (.athrow, 1) := by decide +kernel
theorem dX6_chainAt_44 : decode cX6_chainAt 44 = .ok (.aload 5, 2) := by decide +kernel
theorem dX6_chainAt_46 : decode cX6_chainAt 46 = .ok (.getfield 173, 3) := by decide +kernel
theorem dX6_chainAt_49 : decode cX6_chainAt 49 = .ok (.ireturn, 1) := by decide +kernel
theorem dX6_goodChains_0 : decode cX6_goodChains 0 = .ok (.aload_n 0, 1) := by decide +kernel
theorem dX6_goodChains_1 : decode cX6_goodChains 1 = .ok (.iload_n 1, 1) := by decide +kernel
theorem dX6_goodChains_2 : decode cX6_goodChains 2 = .ok (.invokevirtual 73, 3) := by decide +kernel
theorem dX6_goodChains_5 : decode cX6_goodChains 5 = .ok (.astore_n 3, 1) := by decide +kernel
theorem dX6_goodChains_6 : decode cX6_goodChains 6 = .ok (.iload_n 2, 1) := by decide +kernel
theorem dX6_goodChains_7 : decode cX6_goodChains 7 = .ok (.invokestatic 166, 3) := by decide +kernel
theorem dX6_goodChains_10 : decode cX6_goodChains 10 = .ok (.aload_n 0, 1) := by decide +kernel
theorem dX6_goodChains_11 : decode cX6_goodChains 11 = .ok (.getfield 36, 3) := by decide +kernel
theorem dX6_goodChains_14 : decode cX6_goodChains 14 = .ok (.aload_n 3, 1) := by decide +kernel
theorem dX6_goodChains_15 : decode cX6_goodChains 15 = .ok (.iload_n 2, 1) := by decide +kernel
theorem dX6_goodChains_16 : decode cX6_goodChains 16 = .ok (.invokevirtual 198, 3) := by decide +kernel
theorem dX6_goodChains_19 : decode cX6_goodChains 19 = .ok (.aload_n 0, 1) := by decide +kernel
theorem dX6_goodChains_20 : decode cX6_goodChains 20 = .ok (.getfield 36, 3) := by decide +kernel
theorem dX6_goodChains_23 : decode cX6_goodChains 23 = .ok (.invokestatic 202, 3) := by decide +kernel
theorem dX6_goodChains_26 : decode cX6_goodChains 26 = .ok (.ireturn, 1) := by decide +kernel
theorem dX6_goodChainsByWalks_0 : decode cX6_goodChainsByWalks 0 = .ok (.aload_n 0, 1) := by decide +kernel
theorem dX6_goodChainsByWalks_1 : decode cX6_goodChainsByWalks 1 = .ok (.iload_n 1, 1) := by decide +kernel
theorem dX6_goodChainsByWalks_2 : decode cX6_goodChainsByWalks 2 = .ok (.invokevirtual 73, 3) := by decide +kernel
theorem dX6_goodChainsByWalks_5 : decode cX6_goodChainsByWalks 5 = .ok (.astore_n 3, 1) := by decide +kernel
theorem dX6_goodChainsByWalks_6 : decode cX6_goodChainsByWalks 6 = .ok (.iload_n 2, 1) := by decide +kernel
theorem dX6_goodChainsByWalks_7 : decode cX6_goodChainsByWalks 7 = .ok (.invokestatic 166, 3) := by decide +kernel
theorem dX6_goodChainsByWalks_10 : decode cX6_goodChainsByWalks 10 = .ok (.aload_n 3, 1) := by decide +kernel
theorem dX6_goodChainsByWalks_11 : decode cX6_goodChainsByWalks 11 = .ok (.iload_n 2, 1) := by decide +kernel
theorem dX6_goodChainsByWalks_12 : decode cX6_goodChainsByWalks 12 = .ok (.invokevirtual 206, 3) := by decide +kernel
theorem dX6_goodChainsByWalks_15 : decode cX6_goodChainsByWalks 15 = .ok (.bipush 111, 2) := by decide +kernel
theorem dX6_goodChainsByWalks_17 : decode cX6_goodChainsByWalks 17 = .ok (.if_icmp .eq 5, 3) := by decide +kernel
theorem dX6_goodChainsByWalks_20 : decode cX6_goodChainsByWalks 20 = .ok (.iconst 0, 1) := by decide +kernel
theorem dX6_goodChainsByWalks_21 : decode cX6_goodChainsByWalks 21 = .ok (.ireturn, 1) := by decide +kernel
theorem dX6_goodChainsByWalks_22 : decode cX6_goodChainsByWalks 22 = .ok (.aload_n 0, 1) := by decide +kernel
theorem dX6_goodChainsByWalks_23 : decode cX6_goodChainsByWalks 23 = .ok (.getfield 36, 3) := by decide +kernel
theorem dX6_goodChainsByWalks_26 : decode cX6_goodChainsByWalks 26 = .ok (.aload_n 3, 1) := by decide +kernel
theorem dX6_goodChainsByWalks_27 : decode cX6_goodChainsByWalks 27 = .ok (.iload_n 2, 1) := by decide +kernel
theorem dX6_goodChainsByWalks_28 : decode cX6_goodChainsByWalks 28 = .ok (.invokevirtual 198, 3) := by decide +kernel
theorem dX6_goodChainsByWalks_31 : decode cX6_goodChainsByWalks 31 = .ok (.aload_n 0, 1) := by decide +kernel
theorem dX6_goodChainsByWalks_32 : decode cX6_goodChainsByWalks 32 = .ok (.getfield 36, 3) := by decide +kernel
theorem dX6_goodChainsByWalks_35 : decode cX6_goodChainsByWalks 35 = .ok (.invokestatic 210, 3) := by decide +kernel
theorem dX6_goodChainsByWalks_38 : decode cX6_goodChainsByWalks 38 = .ok (.ireturn, 1) := by decide +kernel
theorem dX6_begin_0 : decode cX6_begin 0 = .ok (.aload_n 0, 1) := by decide +kernel
theorem dX6_begin_1 : decode cX6_begin 1 = .ok (.iload_n 1, 1) := by decide +kernel
theorem dX6_begin_2 : decode cX6_begin 2 = .ok (.invokevirtual 73, 3) := by decide +kernel
theorem dX6_begin_5 : decode cX6_begin 5 = .ok (.astore_n 3, 1) := by decide +kernel
theorem dX6_begin_6 : decode cX6_begin 6 = .ok (.iload_n 2, 1) := by decide +kernel
theorem dX6_begin_7 : decode cX6_begin 7 = .ok (.invokestatic 166, 3) := by decide +kernel
theorem dX6_begin_10 : decode cX6_begin 10 = .ok (.aload_n 3, 1) := by decide +kernel
theorem dX6_begin_11 : decode cX6_begin 11 = .ok (.iload_n 2, 1) := by decide +kernel
theorem dX6_begin_12 : decode cX6_begin 12 = .ok (.invokevirtual 206, 3) := by decide +kernel
theorem dX6_begin_15 : decode cX6_begin 15 = .ok (.istore 4, 2) := by decide +kernel
theorem dX6_begin_17 : decode cX6_begin 17 = .ok (.iload 4, 2) := by decide +kernel
theorem dX6_begin_19 : decode cX6_begin 19 = .ok (.bipush 111, 2) := by decide +kernel
theorem dX6_begin_21 : decode cX6_begin 21 = .ok (.if_icmp .ne 12, 3) := by decide +kernel
theorem dX6_begin_24 : decode cX6_begin 24 = .ok (.aload_n 0, 1) := by decide +kernel
theorem dX6_begin_25 : decode cX6_begin 25 = .ok (.getfield 32, 3) := by decide +kernel
theorem dX6_begin_28 : decode cX6_begin 28 = .ok (.aload_n 3, 1) := by decide +kernel
theorem dX6_begin_29 : decode cX6_begin 29 = .ok (.iload_n 2, 1) := by decide +kernel
theorem dX6_begin_30 : decode cX6_begin 30 = .ok (.invokevirtual 198, 3) := by decide +kernel
theorem dX6_begin_33 : decode cX6_begin 33 = .ok (.iload 4, 2) := by decide +kernel
theorem dX6_begin_35 : decode cX6_begin 35 = .ok (.ireturn, 1) := by decide +kernel
theorem dX6_step_0 : decode cX6_step 0 = .ok (.aload_n 0, 1) := by decide +kernel
theorem dX6_step_1 : decode cX6_step 1 = .ok (.aload_n 0, 1) := by decide +kernel
theorem dX6_step_2 : decode cX6_step 2 = .ok (.invokevirtual 213, 3) := by decide +kernel
theorem dX6_step_5 : decode cX6_step 5 = .ok (.iload_n 1, 1) := by decide +kernel
theorem dX6_step_6 : decode cX6_step 6 = .ok (.invokevirtual 182, 3) := by decide +kernel
theorem dX6_step_9 : decode cX6_step 9 = .ok (.astore_n 2, 1) := by decide +kernel
theorem dX6_step_10 : decode cX6_step 10 = .ok (.aload_n 0, 1) := by decide +kernel
theorem dX6_step_11 : decode cX6_step 11 = .ok (.getfield 32, 3) := by decide +kernel
theorem dX6_step_14 : decode cX6_step 14 = .ok (.aload_n 2, 1) := by decide +kernel
theorem dX6_step_15 : decode cX6_step 15 = .ok (.invokevirtual 217, 3) := by decide +kernel
theorem dX6_step_18 : decode cX6_step 18 = .ok (.istore_n 3, 1) := by decide +kernel
theorem dX6_step_19 : decode cX6_step 19 = .ok (.iload_n 3, 1) := by decide +kernel
theorem dX6_step_20 : decode cX6_step 20 = .ok (.bipush 111, 2) := by decide +kernel
theorem dX6_step_22 : decode cX6_step 22 = .ok (.if_icmp .ne 12, 3) := by decide +kernel
theorem dX6_step_25 : decode cX6_step 25 = .ok (.aload_n 0, 1) := by decide +kernel
theorem dX6_step_26 : decode cX6_step 26 = .ok (.getfield 32, 3) := by decide +kernel
theorem dX6_step_29 : decode cX6_step 29 = .ok (.aload_n 2, 1) := by decide +kernel
theorem dX6_step_30 : decode cX6_step 30 = .ok (.invokevirtual 221, 3) := by decide +kernel
theorem dX6_step_33 : decode cX6_step 33 = .ok (.pop, 1) := by decide +kernel
theorem dX6_step_34 : decode cX6_step 34 = .ok (.iload_n 3, 1) := by decide +kernel
theorem dX6_step_35 : decode cX6_step 35 = .ok (.ireturn, 1) := by decide +kernel
theorem dX6_reached_0 : decode cX6_reached 0 = .ok (.aload_n 0, 1) := by decide +kernel
theorem dX6_reached_1 : decode cX6_reached 1 = .ok (.invokevirtual 213, 3) := by decide +kernel
theorem dX6_reached_4 : decode cX6_reached 4 = .ok (.getfield 173, 3) := by decide +kernel
theorem dX6_reached_7 : decode cX6_reached 7 = .ok (.ireturn, 1) := by decide +kernel
theorem dX6_walked_0 : decode cX6_walked 0 = .ok (.aload_n 0, 1) := by decide +kernel
theorem dX6_walked_1 : decode cX6_walked 1 = .ok (.getfield 32, 3) := by decide +kernel
theorem dX6_walked_4 : decode cX6_walked 4 = .ok (.getfield 225, 3) := by decide +kernel
theorem dX6_walked_7 : decode cX6_walked 7 = .ok (.ireturn, 1) := by decide +kernel
theorem dX6_isThrough_0 : decode cX6_isThrough 0 = .ok (.aload_n 0, 1) := by decide +kernel
theorem dX6_isThrough_1 : decode cX6_isThrough 1 = .ok (.getfield 32, 3) := by decide +kernel
theorem dX6_isThrough_4 : decode cX6_isThrough 4 = .ok (.invokevirtual 228, 3) := by decide +kernel
theorem dX6_isThrough_7 : decode cX6_isThrough 7 = .ok (.ireturn, 1) := by decide +kernel
theorem dX6_soundShare_0 : decode cX6_soundShare 0 = .ok (.aload_n 0, 1) := by decide +kernel
theorem dX6_soundShare_1 : decode cX6_soundShare 1 = .ok (.getfield 42, 3) := by decide +kernel
theorem dX6_soundShare_4 : decode cX6_soundShare 4 = .ok (.ifCond .ne 14, 3) := by decide +kernel
theorem dX6_soundShare_7 : decode cX6_soundShare 7 = .ok (.new 263, 3) := by decide +kernel
theorem dX6_soundShare_10 : decode cX6_soundShare 10 = .ok (.dup, 1) := by decide +kernel
theorem dX6_soundShare_11 : decode cX6_soundShare 11 = .ok (.ldc_w 265, 3) := by decide +kernel
theorem dX6_soundShare_14 : decode cX6_soundShare 14 = .ok (.invokespecial 267, 3) := by decide +kernel
theorem dX6_soundShare_17 : decode cX6_soundShare 17 = .ok (.athrow, 1) := by decide +kernel
theorem dX6_soundShare_18 : decode cX6_soundShare 18 = .ok (.iconst 0, 1) := by decide +kernel
theorem dX6_soundShare_19 : decode cX6_soundShare 19 = .ok (.istore_n 1, 1) := by decide +kernel
theorem dX6_soundShare_20 : decode cX6_soundShare 20 = .ok (.aload_n 0, 1) := by decide +kernel
theorem dX6_soundShare_21 : decode cX6_soundShare 21 = .ok (.getfield 11, 3) := by decide +kernel
theorem dX6_soundShare_24 : decode cX6_soundShare 24 = .ok (.astore_n 2, 1) := by decide +kernel
theorem dX6_soundShare_25 : decode cX6_soundShare 25 = .ok (.aload_n 2, 1) := by decide +kernel
theorem dX6_soundShare_26 : decode cX6_soundShare 26 = .ok (.arraylength, 1) := by decide +kernel
theorem dX6_soundShare_27 : decode cX6_soundShare 27 = .ok (.istore_n 3, 1) := by decide +kernel
theorem dX6_soundShare_28 : decode cX6_soundShare 28 = .ok (.iconst 0, 1) := by decide +kernel
theorem dX6_soundShare_29 : decode cX6_soundShare 29 = .ok (.istore 4, 2) := by decide +kernel
theorem dX6_soundShare_31 : decode cX6_soundShare 31 = .ok (.iload 4, 2) := by decide +kernel
theorem dX6_soundShare_33 : decode cX6_soundShare 33 = .ok (.iload_n 3, 1) := by decide +kernel
theorem dX6_soundShare_34 : decode cX6_soundShare 34 = .ok (.if_icmp .ge 44, 3) := by decide +kernel
theorem dX6_soundShare_37 : decode cX6_soundShare 37 = .ok (.aload_n 2, 1) := by decide +kernel
theorem dX6_soundShare_38 : decode cX6_soundShare 38 = .ok (.iload 4, 2) := by decide +kernel
theorem dX6_soundShare_40 : decode cX6_soundShare 40 = .ok (.aaload, 1) := by decide +kernel
theorem dX6_soundShare_41 : decode cX6_soundShare 41 = .ok (.astore 5, 2) := by decide +kernel
theorem dX6_soundShare_43 : decode cX6_soundShare 43 = .ok (.aload 5, 2) := by decide +kernel
theorem dX6_soundShare_45 : decode cX6_soundShare 45 = .ok (.ifnull 27, 3) := by decide +kernel
theorem dX6_soundShare_48 : decode cX6_soundShare 48 = .ok (.aload 5, 2) := by decide +kernel
theorem dX6_soundShare_50 : decode cX6_soundShare 50 = .ok (.aload_n 0, 1) := by decide +kernel
theorem dX6_soundShare_51 : decode cX6_soundShare 51 = .ok (.getfield 49, 3) := by decide +kernel
theorem dX6_soundShare_54 : decode cX6_soundShare 54 = .ok (.invokevirtual 268, 3) := by decide +kernel
theorem dX6_soundShare_57 : decode cX6_soundShare 57 = .ok (.ifCond .eq 15, 3) := by decide +kernel
theorem dX6_soundShare_60 : decode cX6_soundShare 60 = .ok (.aload 5, 2) := by decide +kernel
theorem dX6_soundShare_62 : decode cX6_soundShare 62 = .ok (.getfield 271, 3) := by decide +kernel
theorem dX6_soundShare_65 : decode cX6_soundShare 65 = .ok (.iconst (-1), 1) := by decide +kernel
theorem dX6_soundShare_66 : decode cX6_soundShare 66 = .ok (.if_icmp .ne 6, 3) := by decide +kernel
theorem dX6_soundShare_69 : decode cX6_soundShare 69 = .ok (.iinc 1 1, 3) := by decide +kernel
theorem dX6_soundShare_72 : decode cX6_soundShare 72 = .ok (.iinc 4 1, 3) := by decide +kernel
theorem dX6_soundShare_75 : decode cX6_soundShare 75 = .ok (.goto (-44), 3) := by decide +kernel
theorem dX6_soundShare_78 : decode cX6_soundShare 78 = .ok (.iload_n 1, 1) := by decide +kernel
theorem dX6_soundShare_79 : decode cX6_soundShare 79 = .ok (.i2f, 1) := by decide +kernel
theorem dX6_soundShare_80 : decode cX6_soundShare 80 = .ok (.aload_n 0, 1) := by decide +kernel
theorem dX6_soundShare_81 : decode cX6_soundShare 81 = .ok (.getfield 42, 3) := by decide +kernel
theorem dX6_soundShare_84 : decode cX6_soundShare 84 = .ok (.i2f, 1) := by decide +kernel
theorem dX6_soundShare_85 : decode cX6_soundShare 85 = .ok (.fdiv, 1) := by decide +kernel
theorem dX6_soundShare_86 : decode cX6_soundShare 86 = .ok (.freturn, 1) := by decide +kernel
theorem dX6_meanChain_0 : decode cX6_meanChain 0 = .ok (.iconst 0, 1) := by decide +kernel
theorem dX6_meanChain_1 : decode cX6_meanChain 1 = .ok (.istore_n 1, 1) := by decide +kernel
theorem dX6_meanChain_2 : decode cX6_meanChain 2 = .ok (.iconst 0, 1) := by decide +kernel
theorem dX6_meanChain_3 : decode cX6_meanChain 3 = .ok (.istore_n 2, 1) := by decide +kernel
theorem dX6_meanChain_4 : decode cX6_meanChain 4 = .ok (.aload_n 0, 1) := by decide +kernel
theorem dX6_meanChain_5 : decode cX6_meanChain 5 = .ok (.getfield 11, 3) := by decide +kernel
theorem dX6_meanChain_8 : decode cX6_meanChain 8 = .ok (.astore_n 3, 1) := by decide +kernel
theorem dX6_meanChain_9 : decode cX6_meanChain 9 = .ok (.aload_n 3, 1) := by decide +kernel
theorem dX6_meanChain_10 : decode cX6_meanChain 10 = .ok (.arraylength, 1) := by decide +kernel
theorem dX6_meanChain_11 : decode cX6_meanChain 11 = .ok (.istore 4, 2) := by decide +kernel
theorem dX6_meanChain_13 : decode cX6_meanChain 13 = .ok (.iconst 0, 1) := by decide +kernel
theorem dX6_meanChain_14 : decode cX6_meanChain 14 = .ok (.istore 5, 2) := by decide +kernel
theorem dX6_meanChain_16 : decode cX6_meanChain 16 = .ok (.iload 5, 2) := by decide +kernel
theorem dX6_meanChain_18 : decode cX6_meanChain 18 = .ok (.iload 4, 2) := by decide +kernel
theorem dX6_meanChain_20 : decode cX6_meanChain 20 = .ok (.if_icmp .ge 49, 3) := by decide +kernel
theorem dX6_meanChain_23 : decode cX6_meanChain 23 = .ok (.aload_n 3, 1) := by decide +kernel
theorem dX6_meanChain_24 : decode cX6_meanChain 24 = .ok (.iload 5, 2) := by decide +kernel
theorem dX6_meanChain_26 : decode cX6_meanChain 26 = .ok (.aaload, 1) := by decide +kernel
theorem dX6_meanChain_27 : decode cX6_meanChain 27 = .ok (.astore 6, 2) := by decide +kernel
theorem dX6_meanChain_29 : decode cX6_meanChain 29 = .ok (.aload 6, 2) := by decide +kernel
theorem dX6_meanChain_31 : decode cX6_meanChain 31 = .ok (.ifnonnull 7, 3) := by decide +kernel
theorem dX6_meanChain_34 : decode cX6_meanChain 34 = .ok (.iconst 0, 1) := by decide +kernel
theorem dX6_meanChain_35 : decode cX6_meanChain 35 = .ok (.goto 13, 3) := by decide +kernel
theorem dX6_meanChain_38 : decode cX6_meanChain 38 = .ok (.aload_n 0, 1) := by decide +kernel
theorem dX6_meanChain_39 : decode cX6_meanChain 39 = .ok (.aload 6, 2) := by decide +kernel
theorem dX6_meanChain_41 : decode cX6_meanChain 41 = .ok (.aload_n 0, 1) := by decide +kernel
theorem dX6_meanChain_42 : decode cX6_meanChain 42 = .ok (.getfield 49, 3) := by decide +kernel
theorem dX6_meanChain_45 : decode cX6_meanChain 45 = .ok (.invokevirtual 186, 3) := by decide +kernel
theorem dX6_meanChain_48 : decode cX6_meanChain 48 = .ok (.istore 7, 2) := by decide +kernel
theorem dX6_meanChain_50 : decode cX6_meanChain 50 = .ok (.iload 7, 2) := by decide +kernel
theorem dX6_meanChain_52 : decode cX6_meanChain 52 = .ok (.ifCond .le 11, 3) := by decide +kernel
theorem dX6_meanChain_55 : decode cX6_meanChain 55 = .ok (.iload_n 1, 1) := by decide +kernel
theorem dX6_meanChain_56 : decode cX6_meanChain 56 = .ok (.iload 7, 2) := by decide +kernel
theorem dX6_meanChain_58 : decode cX6_meanChain 58 = .ok (.iadd, 1) := by decide +kernel
theorem dX6_meanChain_59 : decode cX6_meanChain 59 = .ok (.istore_n 1, 1) := by decide +kernel
theorem dX6_meanChain_60 : decode cX6_meanChain 60 = .ok (.iinc 2 1, 3) := by decide +kernel
theorem dX6_meanChain_63 : decode cX6_meanChain 63 = .ok (.iinc 5 1, 3) := by decide +kernel
theorem dX6_meanChain_66 : decode cX6_meanChain 66 = .ok (.goto (-50), 3) := by decide +kernel
theorem dX6_meanChain_69 : decode cX6_meanChain 69 = .ok (.iload_n 2, 1) := by decide +kernel
theorem dX6_meanChain_70 : decode cX6_meanChain 70 = .ok (.ifCond .ne 14, 3) := by decide +kernel
theorem dX6_meanChain_73 : decode cX6_meanChain 73 = .ok (.new 263, 3) := by decide +kernel
theorem dX6_meanChain_76 : decode cX6_meanChain 76 = .ok (.dup, 1) := by decide +kernel
theorem dX6_meanChain_77 : decode cX6_meanChain 77 = .ok (.ldc_w 274, 3) := by decide +kernel
theorem dX6_meanChain_80 : decode cX6_meanChain 80 = .ok (.invokespecial 267, 3) := by decide +kernel
theorem dX6_meanChain_83 : decode cX6_meanChain 83 = .ok (.athrow, 1) := by decide +kernel
theorem dX6_meanChain_84 : decode cX6_meanChain 84 = .ok (.iload_n 1, 1) := by decide +kernel
theorem dX6_meanChain_85 : decode cX6_meanChain 85 = .ok (.i2d, 1) := by decide +kernel
theorem dX6_meanChain_86 : decode cX6_meanChain 86 = .ok (.iload_n 2, 1) := by decide +kernel
theorem dX6_meanChain_87 : decode cX6_meanChain 87 = .ok (.i2d, 1) := by decide +kernel
theorem dX6_meanChain_88 : decode cX6_meanChain 88 = .ok (.ddiv, 1) := by decide +kernel
theorem dX6_meanChain_89 : decode cX6_meanChain 89 = .ok (.dreturn, 1) := by decide +kernel
theorem dX6_find_0 : decode cX6_find 0 = .ok (.iload_n 1, 1) := by decide +kernel
theorem dX6_find_1 : decode cX6_find 1 = .ok (.ifCond .lt 12, 3) := by decide +kernel
theorem dX6_find_4 : decode cX6_find 4 = .ok (.iload_n 1, 1) := by decide +kernel
theorem dX6_find_5 : decode cX6_find 5 = .ok (.aload_n 0, 1) := by decide +kernel
theorem dX6_find_6 : decode cX6_find 6 = .ok (.getfield 11, 3) := by decide +kernel
theorem dX6_find_9 : decode cX6_find 9 = .ok (.arraylength, 1) := by decide +kernel
theorem dX6_find_10 : decode cX6_find 10 = .ok (.if_icmp .lt 7, 3) := by decide +kernel
theorem dX6_find_13 : decode cX6_find 13 = .ok (.aconst_null, 1) := by decide +kernel
theorem dX6_find_14 : decode cX6_find 14 = .ok (.goto 9, 3) := by decide +kernel
theorem dX6_find_17 : decode cX6_find 17 = .ok (.aload_n 0, 1) := by decide +kernel
theorem dX6_find_18 : decode cX6_find 18 = .ok (.getfield 11, 3) := by decide +kernel
theorem dX6_find_21 : decode cX6_find 21 = .ok (.iload_n 1, 1) := by decide +kernel
theorem dX6_find_22 : decode cX6_find 22 = .ok (.aaload, 1) := by decide +kernel
theorem dX6_find_23 : decode cX6_find 23 = .ok (.astore_n 2, 1) := by decide +kernel
theorem dX6_find_24 : decode cX6_find 24 = .ok (.aload_n 2, 1) := by decide +kernel
theorem dX6_find_25 : decode cX6_find 25 = .ok (.ifnonnull 14, 3) := by decide +kernel
theorem dX6_find_28 : decode cX6_find 28 = .ok (.new 276, 3) := by decide +kernel
theorem dX6_find_31 : decode cX6_find 31 = .ok (.dup, 1) := by decide +kernel
theorem dX6_find_32 : decode cX6_find 32 = .ok (.ldc_w 278, 3) := by decide +kernel
theorem dX6_find_35 : decode cX6_find 35 = .ok (.invokespecial 280, 3) := by decide +kernel
theorem dX6_find_38 : decode cX6_find 38 = .ok (.athrow, 1) := by decide +kernel
theorem dX6_find_39 : decode cX6_find 39 = .ok (.aload_n 2, 1) := by decide +kernel
theorem dX6_find_40 : decode cX6_find 40 = .ok (.areturn, 1) := by decide +kernel
theorem dX6_requireCandidate_0 : decode cX6_requireCandidate 0 = .ok (.aload_n 1, 1) := by decide +kernel
theorem dX6_requireCandidate_1 : decode cX6_requireCandidate 1 = .ok (.iload_n 2, 1) := by decide +kernel
theorem dX6_requireCandidate_2 : decode cX6_requireCandidate 2 = .ok (.invokevirtual 281, 3) := by decide +kernel
theorem dX6_requireCandidate_5 : decode cX6_requireCandidate 5 = .ok (.astore_n 3, 1) := by decide +kernel
theorem dX6_requireCandidate_6 : decode cX6_requireCandidate 6 = .ok (.aload_n 3, 1) := by decide +kernel
theorem dX6_requireCandidate_7 : decode cX6_requireCandidate 7 = .ok (.ifnonnull 14, 3) := by decide +kernel
theorem dX6_requireCandidate_10 : decode cX6_requireCandidate 10 = .ok (.new 193, 3) := by decide +kernel
theorem dX6_requireCandidate_13 : decode cX6_requireCandidate 13 = .ok (.dup, 1) := by decide +kernel
theorem dX6_requireCandidate_14 : decode cX6_requireCandidate 14 = .ok (.ldc_w 284, 3) := by decide +kernel
theorem dX6_requireCandidate_17 : decode cX6_requireCandidate 17 = .ok (.invokespecial 197, 3) := by decide +kernel
theorem dX6_requireCandidate_20 : decode cX6_requireCandidate 20 = .ok (.athrow, 1) := by decide +kernel
theorem dX6_requireCandidate_21 : decode cX6_requireCandidate 21 = .ok (.aload_n 3, 1) := by decide +kernel
theorem dX6_requireCandidate_22 : decode cX6_requireCandidate 22 = .ok (.areturn, 1) := by decide +kernel
theorem dX6_requireReached_0 : decode cX6_requireReached 0 = .ok (.aload_n 0, 1) := by decide +kernel
theorem dX6_requireReached_1 : decode cX6_requireReached 1 = .ok (.getfield 32, 3) := by decide +kernel
theorem dX6_requireReached_4 : decode cX6_requireReached 4 = .ok (.invokevirtual 286, 3) := by decide +kernel
theorem dX6_requireReached_7 : decode cX6_requireReached 7 = .ok (.astore_n 1, 1) := by decide +kernel
theorem dX6_requireReached_8 : decode cX6_requireReached 8 = .ok (.aload_n 1, 1) := by decide +kernel
theorem dX6_requireReached_9 : decode cX6_requireReached 9 = .ok (.ifnonnull 14, 3) := by decide +kernel
theorem dX6_requireReached_12 : decode cX6_requireReached 12 = .ok (.new 85, 3) := by decide +kernel
theorem dX6_requireReached_15 : decode cX6_requireReached 15 = .ok (.dup, 1) := by decide +kernel
theorem dX6_requireReached_16 : decode cX6_requireReached 16 = .ok (.ldc_w 289, 3) := by decide +kernel
theorem dX6_requireReached_19 : decode cX6_requireReached 19 = .ok (.invokespecial 89, 3) := by decide +kernel
theorem dX6_requireReached_22 : decode cX6_requireReached 22 = .ok (.athrow, 1) := by decide +kernel
theorem dX6_requireReached_23 : decode cX6_requireReached 23 = .ok (.aload_n 1, 1) := by decide +kernel
theorem dX6_requireReached_24 : decode cX6_requireReached 24 = .ok (.areturn, 1) := by decide +kernel
theorem dX6_requireName_0 : decode cX6_requireName 0 = .ok (.iload_n 0, 1) := by decide +kernel
theorem dX6_requireName_1 : decode cX6_requireName 1 = .ok (.invokestatic 291, 3) := by decide +kernel
theorem dX6_requireName_4 : decode cX6_requireName 4 = .ok (.ifCond .ne 14, 3) := by decide +kernel
theorem dX6_requireName_7 : decode cX6_requireName 7 = .ok (.new 294, 3) := by decide +kernel
theorem dX6_requireName_10 : decode cX6_requireName 10 = .ok (.dup, 1) := by decide +kernel
theorem dX6_requireName_11 : decode cX6_requireName 11 = .ok (.ldc_w 296, 3) := by decide +kernel
theorem dX6_requireName_14 : decode cX6_requireName 14 = .ok (.invokespecial 298, 3) := by decide +kernel
theorem dX6_requireName_17 : decode cX6_requireName 17 = .ok (.athrow, 1) := by decide +kernel
theorem dX6_requireName_18 : decode cX6_requireName 18 = .ok (.return_, 1) := by decide +kernel
theorem dX6_requireNameOrNone_0 : decode cX6_requireNameOrNone 0 = .ok (.iload_n 0, 1) := by decide +kernel
theorem dX6_requireNameOrNone_1 : decode cX6_requireNameOrNone 1 = .ok (.ifCond .eq 7, 3) := by decide +kernel
theorem dX6_requireNameOrNone_4 : decode cX6_requireNameOrNone 4 = .ok (.iload_n 0, 1) := by decide +kernel
theorem dX6_requireNameOrNone_5 : decode cX6_requireNameOrNone 5 = .ok (.invokestatic 52, 3) := by decide +kernel
theorem dX6_requireNameOrNone_8 : decode cX6_requireNameOrNone 8 = .ok (.return_, 1) := by decide +kernel
theorem dX6_requireDays_0 : decode cX6_requireDays 0 = .ok (.iload_n 0, 1) := by decide +kernel
theorem dX6_requireDays_1 : decode cX6_requireDays 1 = .ok (.iconst 1, 1) := by decide +kernel
theorem dX6_requireDays_2 : decode cX6_requireDays 2 = .ok (.if_icmp .lt 10, 3) := by decide +kernel
theorem dX6_requireDays_5 : decode cX6_requireDays 5 = .ok (.iload_n 0, 1) := by decide +kernel
theorem dX6_requireDays_6 : decode cX6_requireDays 6 = .ok (.sipush 999, 3) := by decide +kernel
theorem dX6_requireDays_9 : decode cX6_requireDays 9 = .ok (.if_icmp .le 14, 3) := by decide +kernel
theorem dX6_requireDays_12 : decode cX6_requireDays 12 = .ok (.new 294, 3) := by decide +kernel
theorem dX6_requireDays_15 : decode cX6_requireDays 15 = .ok (.dup, 1) := by decide +kernel
theorem dX6_requireDays_16 : decode cX6_requireDays 16 = .ok (.ldc_w 299, 3) := by decide +kernel
theorem dX6_requireDays_19 : decode cX6_requireDays 19 = .ok (.invokespecial 298, 3) := by decide +kernel
theorem dX6_requireDays_22 : decode cX6_requireDays 22 = .ok (.athrow, 1) := by decide +kernel
theorem dX6_requireDays_23 : decode cX6_requireDays 23 = .ok (.return_, 1) := by decide +kernel
theorem dX6_requireLength_0 : decode cX6_requireLength 0 = .ok (.iload_n 0, 1) := by decide +kernel
theorem dX6_requireLength_1 : decode cX6_requireLength 1 = .ok (.ifCond .lt 8, 3) := by decide +kernel
theorem dX6_requireLength_4 : decode cX6_requireLength 4 = .ok (.iload_n 0, 1) := by decide +kernel
theorem dX6_requireLength_5 : decode cX6_requireLength 5 = .ok (.iconst 5, 1) := by decide +kernel
theorem dX6_requireLength_6 : decode cX6_requireLength 6 = .ok (.if_icmp .le 14, 3) := by decide +kernel
theorem dX6_requireLength_9 : decode cX6_requireLength 9 = .ok (.new 294, 3) := by decide +kernel
theorem dX6_requireLength_12 : decode cX6_requireLength 12 = .ok (.dup, 1) := by decide +kernel
theorem dX6_requireLength_13 : decode cX6_requireLength 13 = .ok (.ldc_w 301, 3) := by decide +kernel
theorem dX6_requireLength_16 : decode cX6_requireLength 16 = .ok (.invokespecial 298, 3) := by decide +kernel
theorem dX6_requireLength_19 : decode cX6_requireLength 19 = .ok (.athrow, 1) := by decide +kernel
theorem dX6_requireLength_20 : decode cX6_requireLength 20 = .ok (.return_, 1) := by decide +kernel
theorem dX6_requireDay_0 : decode cX6_requireDay 0 = .ok (.iload_n 0, 1) := by decide +kernel
theorem dX6_requireDay_1 : decode cX6_requireDay 1 = .ok (.ifCond .ge 14, 3) := by decide +kernel
theorem dX6_requireDay_4 : decode cX6_requireDay 4 = .ok (.new 294, 3) := by decide +kernel
theorem dX6_requireDay_7 : decode cX6_requireDay 7 = .ok (.dup, 1) := by decide +kernel
theorem dX6_requireDay_8 : decode cX6_requireDay 8 = .ok (.ldc_w 303, 3) := by decide +kernel
theorem dX6_requireDay_11 : decode cX6_requireDay 11 = .ok (.invokespecial 298, 3) := by decide +kernel
theorem dX6_requireDay_14 : decode cX6_requireDay 14 = .ok (.athrow, 1) := by decide +kernel
theorem dX6_requireDay_15 : decode cX6_requireDay 15 = .ok (.return_, 1) := by decide +kernel
theorem dX6_requireAuthority_0 : decode cX6_requireAuthority 0 = .ok (.aload_n 0, 1) := by decide +kernel
theorem dX6_requireAuthority_1 : decode cX6_requireAuthority 1 = .ok (.invokevirtual 159, 3) := by decide +kernel
theorem dX6_requireAuthority_4 : decode cX6_requireAuthority 4 = .ok (.ifCond .ne 14, 3) := by decide +kernel
theorem dX6_requireAuthority_7 : decode cX6_requireAuthority 7 = .ok (.new 85, 3) := by decide +kernel
theorem dX6_requireAuthority_10 : decode cX6_requireAuthority 10 = .ok (.dup, 1) := by decide +kernel
theorem dX6_requireAuthority_11 : decode cX6_requireAuthority 11 = .ok (.ldc_w 305, 3) := by decide +kernel
theorem dX6_requireAuthority_14 : decode cX6_requireAuthority 14 = .ok (.invokespecial 89, 3) := by decide +kernel
theorem dX6_requireAuthority_17 : decode cX6_requireAuthority 17 = .ok (.athrow, 1) := by decide +kernel
theorem dX6_requireAuthority_18 : decode cX6_requireAuthority 18 = .ok (.return_, 1) := by decide +kernel
theorem dX6_requireRoom_0 : decode cX6_requireRoom 0 = .ok (.aload_n 0, 1) := by decide +kernel
theorem dX6_requireRoom_1 : decode cX6_requireRoom 1 = .ok (.getfield 42, 3) := by decide +kernel
theorem dX6_requireRoom_4 : decode cX6_requireRoom 4 = .ok (.bipush 40, 2) := by decide +kernel
theorem dX6_requireRoom_6 : decode cX6_requireRoom 6 = .ok (.if_icmp .lt 14, 3) := by decide +kernel
theorem dX6_requireRoom_9 : decode cX6_requireRoom 9 = .ok (.new 85, 3) := by decide +kernel
theorem dX6_requireRoom_12 : decode cX6_requireRoom 12 = .ok (.dup, 1) := by decide +kernel
theorem dX6_requireRoom_13 : decode cX6_requireRoom 13 = .ok (.ldc_w 307, 3) := by decide +kernel
theorem dX6_requireRoom_16 : decode cX6_requireRoom 16 = .ok (.invokespecial 89, 3) := by decide +kernel
theorem dX6_requireRoom_19 : decode cX6_requireRoom 19 = .ok (.athrow, 1) := by decide +kernel
theorem dX6_requireRoom_20 : decode cX6_requireRoom 20 = .ok (.return_, 1) := by decide +kernel
theorem dX6_isName_0 : decode cX6_isName 0 = .ok (.iload_n 0, 1) := by decide +kernel
theorem dX6_isName_1 : decode cX6_isName 1 = .ok (.iconst 1, 1) := by decide +kernel
theorem dX6_isName_2 : decode cX6_isName 2 = .ok (.if_icmp .lt 10, 3) := by decide +kernel
theorem dX6_isName_5 : decode cX6_isName 5 = .ok (.iload_n 0, 1) := by decide +kernel
theorem dX6_isName_6 : decode cX6_isName 6 = .ok (.sipush 9999, 3) := by decide +kernel
theorem dX6_isName_9 : decode cX6_isName 9 = .ok (.if_icmp .le 5, 3) := by decide +kernel
theorem dX6_isName_12 : decode cX6_isName 12 = .ok (.iconst 0, 1) := by decide +kernel
theorem dX6_isName_13 : decode cX6_isName 13 = .ok (.ireturn, 1) := by decide +kernel
theorem dX6_isName_14 : decode cX6_isName 14 = .ok (.iload_n 0, 1) := by decide +kernel
theorem dX6_isName_15 : decode cX6_isName 15 = .ok (.istore_n 1, 1) := by decide +kernel
theorem dX6_isName_16 : decode cX6_isName 16 = .ok (.iload_n 1, 1) := by decide +kernel
theorem dX6_isName_17 : decode cX6_isName 17 = .ok (.ifCond .le 20, 3) := by decide +kernel
theorem dX6_isName_20 : decode cX6_isName 20 = .ok (.iload_n 1, 1) := by decide +kernel
theorem dX6_isName_21 : decode cX6_isName 21 = .ok (.bipush 10, 2) := by decide +kernel
theorem dX6_isName_23 : decode cX6_isName 23 = .ok (.irem, 1) := by decide +kernel
theorem dX6_isName_24 : decode cX6_isName 24 = .ok (.ifCond .ne 5, 3) := by decide +kernel
theorem dX6_isName_27 : decode cX6_isName 27 = .ok (.iconst 0, 1) := by decide +kernel
theorem dX6_isName_28 : decode cX6_isName 28 = .ok (.ireturn, 1) := by decide +kernel
theorem dX6_isName_29 : decode cX6_isName 29 = .ok (.iload_n 1, 1) := by decide +kernel
theorem dX6_isName_30 : decode cX6_isName 30 = .ok (.bipush 10, 2) := by decide +kernel
theorem dX6_isName_32 : decode cX6_isName 32 = .ok (.idiv, 1) := by decide +kernel
theorem dX6_isName_33 : decode cX6_isName 33 = .ok (.istore_n 1, 1) := by decide +kernel
theorem dX6_isName_34 : decode cX6_isName 34 = .ok (.goto (-18), 3) := by decide +kernel
theorem dX6_isName_37 : decode cX6_isName 37 = .ok (.iconst 1, 1) := by decide +kernel
theorem dX6_isName_38 : decode cX6_isName 38 = .ok (.ireturn, 1) := by decide +kernel
theorem dX6_beginsWith_0 : decode cX6_beginsWith 0 = .ok (.iload_n 0, 1) := by decide +kernel
theorem dX6_beginsWith_1 : decode cX6_beginsWith 1 = .ok (.istore_n 2, 1) := by decide +kernel
theorem dX6_beginsWith_2 : decode cX6_beginsWith 2 = .ok (.iconst 0, 1) := by decide +kernel
theorem dX6_beginsWith_3 : decode cX6_beginsWith 3 = .ok (.istore_n 3, 1) := by decide +kernel
theorem dX6_beginsWith_4 : decode cX6_beginsWith 4 = .ok (.iload_n 3, 1) := by decide +kernel
theorem dX6_beginsWith_5 : decode cX6_beginsWith 5 = .ok (.iconst 4, 1) := by decide +kernel
theorem dX6_beginsWith_6 : decode cX6_beginsWith 6 = .ok (.if_icmp .ge 19, 3) := by decide +kernel
theorem dX6_beginsWith_9 : decode cX6_beginsWith 9 = .ok (.iload_n 2, 1) := by decide +kernel
theorem dX6_beginsWith_10 : decode cX6_beginsWith 10 = .ok (.iload_n 1, 1) := by decide +kernel
theorem dX6_beginsWith_11 : decode cX6_beginsWith 11 = .ok (.if_icmp .le 14, 3) := by decide +kernel
theorem dX6_beginsWith_14 : decode cX6_beginsWith 14 = .ok (.iload_n 2, 1) := by decide +kernel
theorem dX6_beginsWith_15 : decode cX6_beginsWith 15 = .ok (.bipush 10, 2) := by decide +kernel
theorem dX6_beginsWith_17 : decode cX6_beginsWith 17 = .ok (.idiv, 1) := by decide +kernel
theorem dX6_beginsWith_18 : decode cX6_beginsWith 18 = .ok (.istore_n 2, 1) := by decide +kernel
theorem dX6_beginsWith_19 : decode cX6_beginsWith 19 = .ok (.iinc 3 1, 3) := by decide +kernel
theorem dX6_beginsWith_22 : decode cX6_beginsWith 22 = .ok (.goto (-18), 3) := by decide +kernel
theorem dX6_beginsWith_25 : decode cX6_beginsWith 25 = .ok (.iload_n 2, 1) := by decide +kernel
theorem dX6_beginsWith_26 : decode cX6_beginsWith 26 = .ok (.iload_n 1, 1) := by decide +kernel
theorem dX6_beginsWith_27 : decode cX6_beginsWith 27 = .ok (.if_icmp .ne 7, 3) := by decide +kernel
theorem dX6_beginsWith_30 : decode cX6_beginsWith 30 = .ok (.iconst 1, 1) := by decide +kernel
theorem dX6_beginsWith_31 : decode cX6_beginsWith 31 = .ok (.goto 4, 3) := by decide +kernel
theorem dX6_beginsWith_34 : decode cX6_beginsWith 34 = .ok (.iconst 0, 1) := by decide +kernel
theorem dX6_beginsWith_35 : decode cX6_beginsWith 35 = .ok (.ireturn, 1) := by decide +kernel
theorem dX6_newHolder_0 : decode cX6_newHolder 0 = .ok (.aload_n 0, 1) := by decide +kernel
theorem dX6_newHolder_1 : decode cX6_newHolder 1 = .ok (.dup, 1) := by decide +kernel
theorem dX6_newHolder_2 : decode cX6_newHolder 2 = .ok (.getfield 46, 3) := by decide +kernel
theorem dX6_newHolder_5 : decode cX6_newHolder 5 = .ok (.iconst 1, 1) := by decide +kernel
theorem dX6_newHolder_6 : decode cX6_newHolder 6 = .ok (.iadd, 1) := by decide +kernel
theorem dX6_newHolder_7 : decode cX6_newHolder 7 = .ok (.putfield 46, 3) := by decide +kernel
theorem dX6_newHolder_10 : decode cX6_newHolder 10 = .ok (.new 93, 3) := by decide +kernel
theorem dX6_newHolder_13 : decode cX6_newHolder 13 = .ok (.dup, 1) := by decide +kernel
theorem dX6_newHolder_14 : decode cX6_newHolder 14 = .ok (.iload_n 1, 1) := by decide +kernel
theorem dX6_newHolder_15 : decode cX6_newHolder 15 = .ok (.aload_n 0, 1) := by decide +kernel
theorem dX6_newHolder_16 : decode cX6_newHolder 16 = .ok (.getfield 46, 3) := by decide +kernel
theorem dX6_newHolder_19 : decode cX6_newHolder 19 = .ok (.invokespecial 312, 3) := by decide +kernel
theorem dX6_newHolder_22 : decode cX6_newHolder 22 = .ok (.areturn, 1) := by decide +kernel
theorem dX6_enter_0 : decode cX6_enter 0 = .ok (.aload_n 0, 1) := by decide +kernel
theorem dX6_enter_1 : decode cX6_enter 1 = .ok (.getfield 42, 3) := by decide +kernel
theorem dX6_enter_4 : decode cX6_enter 4 = .ok (.istore 5, 2) := by decide +kernel
theorem dX6_enter_6 : decode cX6_enter 6 = .ok (.aload_n 0, 1) := by decide +kernel
theorem dX6_enter_7 : decode cX6_enter 7 = .ok (.getfield 49, 3) := by decide +kernel
theorem dX6_enter_10 : decode cX6_enter 10 = .ok (.iload_n 3, 1) := by decide +kernel
theorem dX6_enter_11 : decode cX6_enter 11 = .ok (.iadd, 1) := by decide +kernel
theorem dX6_enter_12 : decode cX6_enter 12 = .ok (.iconst 1, 1) := by decide +kernel
theorem dX6_enter_13 : decode cX6_enter 13 = .ok (.isub, 1) := by decide +kernel
theorem dX6_enter_14 : decode cX6_enter 14 = .ok (.istore 6, 2) := by decide +kernel
theorem dX6_enter_16 : decode cX6_enter 16 = .ok (.new 9, 3) := by decide +kernel
theorem dX6_enter_19 : decode cX6_enter 19 = .ok (.dup, 1) := by decide +kernel
theorem dX6_enter_20 : decode cX6_enter 20 = .ok (.iload 5, 2) := by decide +kernel
theorem dX6_enter_22 : decode cX6_enter 22 = .ok (.aload_n 1, 1) := by decide +kernel
theorem dX6_enter_23 : decode cX6_enter 23 = .ok (.aload_n 2, 1) := by decide +kernel
theorem dX6_enter_24 : decode cX6_enter 24 = .ok (.aload_n 0, 1) := by decide +kernel
theorem dX6_enter_25 : decode cX6_enter 25 = .ok (.getfield 49, 3) := by decide +kernel
theorem dX6_enter_28 : decode cX6_enter 28 = .ok (.iload 6, 2) := by decide +kernel
theorem dX6_enter_30 : decode cX6_enter 30 = .ok (.iload 4, 2) := by decide +kernel
theorem dX6_enter_32 : decode cX6_enter 32 = .ok (.invokespecial 315, 3) := by decide +kernel
theorem dX6_enter_35 : decode cX6_enter 35 = .ok (.astore 7, 2) := by decide +kernel
theorem dX6_enter_37 : decode cX6_enter 37 = .ok (.iload 5, 2) := by decide +kernel
theorem dX6_enter_39 : decode cX6_enter 39 = .ok (.ifCond .lt 47, 3) := by decide +kernel
theorem dX6_enter_42 : decode cX6_enter 42 = .ok (.iload 5, 2) := by decide +kernel
theorem dX6_enter_44 : decode cX6_enter 44 = .ok (.aload_n 0, 1) := by decide +kernel
theorem dX6_enter_45 : decode cX6_enter 45 = .ok (.getfield 11, 3) := by decide +kernel
theorem dX6_enter_48 : decode cX6_enter 48 = .ok (.arraylength, 1) := by decide +kernel
theorem dX6_enter_49 : decode cX6_enter 49 = .ok (.if_icmp .ge 37, 3) := by decide +kernel
theorem dX6_enter_52 : decode cX6_enter 52 = .ok (.aload_n 0, 1) := by decide +kernel
theorem dX6_enter_53 : decode cX6_enter 53 = .ok (.getfield 11, 3) := by decide +kernel
theorem dX6_enter_56 : decode cX6_enter 56 = .ok (.iload 5, 2) := by decide +kernel
theorem dX6_enter_58 : decode cX6_enter 58 = .ok (.aload 7, 2) := by decide +kernel
theorem dX6_enter_60 : decode cX6_enter 60 = .ok (.aastore, 1) := by decide +kernel
theorem dX6_enter_61 : decode cX6_enter 61 = .ok (.aload_n 0, 1) := by decide +kernel
theorem dX6_enter_62 : decode cX6_enter 62 = .ok (.dup, 1) := by decide +kernel
theorem dX6_enter_63 : decode cX6_enter 63 = .ok (.getfield 42, 3) := by decide +kernel
theorem dX6_enter_66 : decode cX6_enter 66 = .ok (.iconst 1, 1) := by decide +kernel
theorem dX6_enter_67 : decode cX6_enter 67 = .ok (.iadd, 1) := by decide +kernel
theorem dX6_enter_68 : decode cX6_enter 68 = .ok (.putfield 42, 3) := by decide +kernel
theorem dX6_enter_71 : decode cX6_enter 71 = .ok (.aload_n 1, 1) := by decide +kernel
theorem dX6_enter_72 : decode cX6_enter 72 = .ok (.aload 7, 2) := by decide +kernel
theorem dX6_enter_74 : decode cX6_enter 74 = .ok (.invokevirtual 318, 3) := by decide +kernel
theorem dX6_enter_77 : decode cX6_enter 77 = .ok (.aload_n 0, 1) := by decide +kernel
theorem dX6_enter_78 : decode cX6_enter 78 = .ok (.getfield 25, 3) := by decide +kernel
theorem dX6_enter_81 : decode cX6_enter 81 = .ok (.aload 7, 2) := by decide +kernel
theorem dX6_enter_83 : decode cX6_enter 83 = .ok (.invokevirtual 321, 3) := by decide +kernel
theorem dX6_enter_86 : decode cX6_enter 86 = .ok (.iload 5, 2) := by decide +kernel
theorem dX6_enter_88 : decode cX6_enter 88 = .ok (.ireturn, 1) := by decide +kernel
theorem dX6_hasIssued_0 : decode cX6_hasIssued 0 = .ok (.aload_n 0, 1) := by decide +kernel
theorem dX6_hasIssued_1 : decode cX6_hasIssued 1 = .ok (.getfield 11, 3) := by decide +kernel
theorem dX6_hasIssued_4 : decode cX6_hasIssued 4 = .ok (.astore_n 2, 1) := by decide +kernel
theorem dX6_hasIssued_5 : decode cX6_hasIssued 5 = .ok (.aload_n 2, 1) := by decide +kernel
theorem dX6_hasIssued_6 : decode cX6_hasIssued 6 = .ok (.arraylength, 1) := by decide +kernel
theorem dX6_hasIssued_7 : decode cX6_hasIssued 7 = .ok (.istore_n 3, 1) := by decide +kernel
theorem dX6_hasIssued_8 : decode cX6_hasIssued 8 = .ok (.iconst 0, 1) := by decide +kernel
theorem dX6_hasIssued_9 : decode cX6_hasIssued 9 = .ok (.istore 4, 2) := by decide +kernel
theorem dX6_hasIssued_11 : decode cX6_hasIssued 11 = .ok (.iload 4, 2) := by decide +kernel
theorem dX6_hasIssued_13 : decode cX6_hasIssued 13 = .ok (.iload_n 3, 1) := by decide +kernel
theorem dX6_hasIssued_14 : decode cX6_hasIssued 14 = .ok (.if_icmp .ge 39, 3) := by decide +kernel
theorem dX6_hasIssued_17 : decode cX6_hasIssued 17 = .ok (.aload_n 2, 1) := by decide +kernel
theorem dX6_hasIssued_18 : decode cX6_hasIssued 18 = .ok (.iload 4, 2) := by decide +kernel
theorem dX6_hasIssued_20 : decode cX6_hasIssued 20 = .ok (.aaload, 1) := by decide +kernel
theorem dX6_hasIssued_21 : decode cX6_hasIssued 21 = .ok (.astore 5, 2) := by decide +kernel
theorem dX6_hasIssued_23 : decode cX6_hasIssued 23 = .ok (.aload 5, 2) := by decide +kernel
theorem dX6_hasIssued_25 : decode cX6_hasIssued 25 = .ok (.ifnull 22, 3) := by decide +kernel
theorem dX6_hasIssued_28 : decode cX6_hasIssued 28 = .ok (.aload 5, 2) := by decide +kernel
theorem dX6_hasIssued_30 : decode cX6_hasIssued 30 = .ok (.getfield 135, 3) := by decide +kernel
theorem dX6_hasIssued_33 : decode cX6_hasIssued 33 = .ok (.aload_n 1, 1) := by decide +kernel
theorem dX6_hasIssued_34 : decode cX6_hasIssued 34 = .ok (.if_acmp .ne 13, 3) := by decide +kernel
theorem dX6_hasIssued_37 : decode cX6_hasIssued 37 = .ok (.aload 5, 2) := by decide +kernel
theorem dX6_hasIssued_39 : decode cX6_hasIssued 39 = .ok (.invokevirtual 115, 3) := by decide +kernel
theorem dX6_hasIssued_42 : decode cX6_hasIssued 42 = .ok (.ifCond .ne 5, 3) := by decide +kernel
theorem dX6_hasIssued_45 : decode cX6_hasIssued 45 = .ok (.iconst 1, 1) := by decide +kernel
theorem dX6_hasIssued_46 : decode cX6_hasIssued 46 = .ok (.ireturn, 1) := by decide +kernel
theorem dX6_hasIssued_47 : decode cX6_hasIssued 47 = .ok (.iinc 4 1, 3) := by decide +kernel
theorem dX6_hasIssued_50 : decode cX6_hasIssued 50 = .ok (.goto (-39), 3) := by decide +kernel
theorem dX6_hasIssued_53 : decode cX6_hasIssued 53 = .ok (.iconst 0, 1) := by decide +kernel
theorem dX6_hasIssued_54 : decode cX6_hasIssued 54 = .ok (.ireturn, 1) := by decide +kernel
theorem dX6_trustedRoots_0 : decode cX6_trustedRoots 0 = .ok (.iconst 0, 1) := by decide +kernel
theorem dX6_trustedRoots_1 : decode cX6_trustedRoots 1 = .ok (.istore_n 1, 1) := by decide +kernel
theorem dX6_trustedRoots_2 : decode cX6_trustedRoots 2 = .ok (.aload_n 0, 1) := by decide +kernel
theorem dX6_trustedRoots_3 : decode cX6_trustedRoots 3 = .ok (.getfield 11, 3) := by decide +kernel
theorem dX6_trustedRoots_6 : decode cX6_trustedRoots 6 = .ok (.astore_n 2, 1) := by decide +kernel
theorem dX6_trustedRoots_7 : decode cX6_trustedRoots 7 = .ok (.aload_n 2, 1) := by decide +kernel
theorem dX6_trustedRoots_8 : decode cX6_trustedRoots 8 = .ok (.arraylength, 1) := by decide +kernel
theorem dX6_trustedRoots_9 : decode cX6_trustedRoots 9 = .ok (.istore_n 3, 1) := by decide +kernel
theorem dX6_trustedRoots_10 : decode cX6_trustedRoots 10 = .ok (.iconst 0, 1) := by decide +kernel
theorem dX6_trustedRoots_11 : decode cX6_trustedRoots 11 = .ok (.istore 4, 2) := by decide +kernel
theorem dX6_trustedRoots_13 : decode cX6_trustedRoots 13 = .ok (.iload 4, 2) := by decide +kernel
theorem dX6_trustedRoots_15 : decode cX6_trustedRoots 15 = .ok (.iload_n 3, 1) := by decide +kernel
theorem dX6_trustedRoots_16 : decode cX6_trustedRoots 16 = .ok (.if_icmp .ge 31, 3) := by decide +kernel
theorem dX6_trustedRoots_19 : decode cX6_trustedRoots 19 = .ok (.aload_n 2, 1) := by decide +kernel
theorem dX6_trustedRoots_20 : decode cX6_trustedRoots 20 = .ok (.iload 4, 2) := by decide +kernel
theorem dX6_trustedRoots_22 : decode cX6_trustedRoots 22 = .ok (.aaload, 1) := by decide +kernel
theorem dX6_trustedRoots_23 : decode cX6_trustedRoots 23 = .ok (.astore 5, 2) := by decide +kernel
theorem dX6_trustedRoots_25 : decode cX6_trustedRoots 25 = .ok (.aload 5, 2) := by decide +kernel
theorem dX6_trustedRoots_27 : decode cX6_trustedRoots 27 = .ok (.ifnull 14, 3) := by decide +kernel
theorem dX6_trustedRoots_30 : decode cX6_trustedRoots 30 = .ok (.aload 5, 2) := by decide +kernel
theorem dX6_trustedRoots_32 : decode cX6_trustedRoots 32 = .ok (.getfield 120, 3) := by decide +kernel
theorem dX6_trustedRoots_35 : decode cX6_trustedRoots 35 = .ok (.ifCond .eq 6, 3) := by decide +kernel
theorem dX6_trustedRoots_38 : decode cX6_trustedRoots 38 = .ok (.iinc 1 1, 3) := by decide +kernel
theorem dX6_trustedRoots_41 : decode cX6_trustedRoots 41 = .ok (.iinc 4 1, 3) := by decide +kernel
theorem dX6_trustedRoots_44 : decode cX6_trustedRoots 44 = .ok (.goto (-31), 3) := by decide +kernel
theorem dX6_trustedRoots_47 : decode cX6_trustedRoots 47 = .ok (.iload_n 1, 1) := by decide +kernel
theorem dX6_trustedRoots_48 : decode cX6_trustedRoots 48 = .ok (.ireturn, 1) := by decide +kernel
theorem dX6_pendingOf_0 : decode cX6_pendingOf 0 = .ok (.iconst 0, 1) := by decide +kernel
theorem dX6_pendingOf_1 : decode cX6_pendingOf 1 = .ok (.istore_n 2, 1) := by decide +kernel
theorem dX6_pendingOf_2 : decode cX6_pendingOf 2 = .ok (.aload_n 0, 1) := by decide +kernel
theorem dX6_pendingOf_3 : decode cX6_pendingOf 3 = .ok (.getfield 11, 3) := by decide +kernel
theorem dX6_pendingOf_6 : decode cX6_pendingOf 6 = .ok (.astore_n 3, 1) := by decide +kernel
theorem dX6_pendingOf_7 : decode cX6_pendingOf 7 = .ok (.aload_n 3, 1) := by decide +kernel
theorem dX6_pendingOf_8 : decode cX6_pendingOf 8 = .ok (.arraylength, 1) := by decide +kernel
theorem dX6_pendingOf_9 : decode cX6_pendingOf 9 = .ok (.istore 4, 2) := by decide +kernel
theorem dX6_pendingOf_11 : decode cX6_pendingOf 11 = .ok (.iconst 0, 1) := by decide +kernel
theorem dX6_pendingOf_12 : decode cX6_pendingOf 12 = .ok (.istore 5, 2) := by decide +kernel
theorem dX6_pendingOf_14 : decode cX6_pendingOf 14 = .ok (.iload 5, 2) := by decide +kernel
theorem dX6_pendingOf_16 : decode cX6_pendingOf 16 = .ok (.iload 4, 2) := by decide +kernel
theorem dX6_pendingOf_18 : decode cX6_pendingOf 18 = .ok (.if_icmp .ge 49, 3) := by decide +kernel
theorem dX6_pendingOf_21 : decode cX6_pendingOf 21 = .ok (.aload_n 3, 1) := by decide +kernel
theorem dX6_pendingOf_22 : decode cX6_pendingOf 22 = .ok (.iload 5, 2) := by decide +kernel
theorem dX6_pendingOf_24 : decode cX6_pendingOf 24 = .ok (.aaload, 1) := by decide +kernel
theorem dX6_pendingOf_25 : decode cX6_pendingOf 25 = .ok (.astore 6, 2) := by decide +kernel
theorem dX6_pendingOf_27 : decode cX6_pendingOf 27 = .ok (.aload 6, 2) := by decide +kernel
theorem dX6_pendingOf_29 : decode cX6_pendingOf 29 = .ok (.ifnull 32, 3) := by decide +kernel
theorem dX6_pendingOf_32 : decode cX6_pendingOf 32 = .ok (.aload 6, 2) := by decide +kernel
theorem dX6_pendingOf_34 : decode cX6_pendingOf 34 = .ok (.getfield 135, 3) := by decide +kernel
theorem dX6_pendingOf_37 : decode cX6_pendingOf 37 = .ok (.aload_n 1, 1) := by decide +kernel
theorem dX6_pendingOf_38 : decode cX6_pendingOf 38 = .ok (.if_acmp .ne 23, 3) := by decide +kernel
theorem dX6_pendingOf_41 : decode cX6_pendingOf 41 = .ok (.aload 6, 2) := by decide +kernel
theorem dX6_pendingOf_43 : decode cX6_pendingOf 43 = .ok (.getfield 130, 3) := by decide +kernel
theorem dX6_pendingOf_46 : decode cX6_pendingOf 46 = .ok (.ifCond .eq 15, 3) := by decide +kernel
theorem dX6_pendingOf_49 : decode cX6_pendingOf 49 = .ok (.aload 6, 2) := by decide +kernel
theorem dX6_pendingOf_51 : decode cX6_pendingOf 51 = .ok (.getfield 271, 3) := by decide +kernel
theorem dX6_pendingOf_54 : decode cX6_pendingOf 54 = .ok (.iconst (-1), 1) := by decide +kernel
theorem dX6_pendingOf_55 : decode cX6_pendingOf 55 = .ok (.if_icmp .ne 6, 3) := by decide +kernel
theorem dX6_pendingOf_58 : decode cX6_pendingOf 58 = .ok (.iinc 2 1, 3) := by decide +kernel
theorem dX6_pendingOf_61 : decode cX6_pendingOf 61 = .ok (.iinc 5 1, 3) := by decide +kernel
theorem dX6_pendingOf_64 : decode cX6_pendingOf 64 = .ok (.goto (-50), 3) := by decide +kernel
theorem dX6_pendingOf_67 : decode cX6_pendingOf 67 = .ok (.iload_n 2, 1) := by decide +kernel
theorem dX6_pendingOf_68 : decode cX6_pendingOf 68 = .ok (.ireturn, 1) := by decide +kernel
theorem dX6_takeEffect_0 : decode cX6_takeEffect 0 = .ok (.lconst 0, 1) := by decide +kernel
theorem dX6_takeEffect_1 : decode cX6_takeEffect 1 = .ok (.lstore_n 2, 1) := by decide +kernel
theorem dX6_takeEffect_2 : decode cX6_takeEffect 2 = .ok (.aload_n 0, 1) := by decide +kernel
theorem dX6_takeEffect_3 : decode cX6_takeEffect 3 = .ok (.getfield 11, 3) := by decide +kernel
theorem dX6_takeEffect_6 : decode cX6_takeEffect 6 = .ok (.astore 4, 2) := by decide +kernel
theorem dX6_takeEffect_8 : decode cX6_takeEffect 8 = .ok (.aload 4, 2) := by decide +kernel
theorem dX6_takeEffect_10 : decode cX6_takeEffect 10 = .ok (.arraylength, 1) := by decide +kernel
theorem dX6_takeEffect_11 : decode cX6_takeEffect 11 = .ok (.istore 5, 2) := by decide +kernel
theorem dX6_takeEffect_13 : decode cX6_takeEffect 13 = .ok (.iconst 0, 1) := by decide +kernel
theorem dX6_takeEffect_14 : decode cX6_takeEffect 14 = .ok (.istore 6, 2) := by decide +kernel
theorem dX6_takeEffect_16 : decode cX6_takeEffect 16 = .ok (.iload 6, 2) := by decide +kernel
theorem dX6_takeEffect_18 : decode cX6_takeEffect 18 = .ok (.iload 5, 2) := by decide +kernel
theorem dX6_takeEffect_20 : decode cX6_takeEffect 20 = .ok (.if_icmp .ge 67, 3) := by decide +kernel
theorem dX6_takeEffect_23 : decode cX6_takeEffect 23 = .ok (.aload 4, 2) := by decide +kernel
theorem dX6_takeEffect_25 : decode cX6_takeEffect 25 = .ok (.iload 6, 2) := by decide +kernel
theorem dX6_takeEffect_27 : decode cX6_takeEffect 27 = .ok (.aaload, 1) := by decide +kernel
theorem dX6_takeEffect_28 : decode cX6_takeEffect 28 = .ok (.astore 7, 2) := by decide +kernel
theorem dX6_takeEffect_30 : decode cX6_takeEffect 30 = .ok (.aload 7, 2) := by decide +kernel
theorem dX6_takeEffect_32 : decode cX6_takeEffect 32 = .ok (.ifnull 49, 3) := by decide +kernel
theorem dX6_takeEffect_35 : decode cX6_takeEffect 35 = .ok (.aload 7, 2) := by decide +kernel
theorem dX6_takeEffect_37 : decode cX6_takeEffect 37 = .ok (.getfield 135, 3) := by decide +kernel
theorem dX6_takeEffect_40 : decode cX6_takeEffect 40 = .ok (.aload_n 1, 1) := by decide +kernel
theorem dX6_takeEffect_41 : decode cX6_takeEffect 41 = .ok (.if_acmp .ne 40, 3) := by decide +kernel
theorem dX6_takeEffect_44 : decode cX6_takeEffect 44 = .ok (.aload 7, 2) := by decide +kernel
theorem dX6_takeEffect_46 : decode cX6_takeEffect 46 = .ok (.getfield 130, 3) := by decide +kernel
theorem dX6_takeEffect_49 : decode cX6_takeEffect 49 = .ok (.ifCond .eq 32, 3) := by decide +kernel
theorem dX6_takeEffect_52 : decode cX6_takeEffect 52 = .ok (.lload_n 2, 1) := by decide +kernel
theorem dX6_takeEffect_53 : decode cX6_takeEffect 53 = .ok (.aload 7, 2) := by decide +kernel
theorem dX6_takeEffect_55 : decode cX6_takeEffect 55 = .ok (.getfield 173, 3) := by decide +kernel
theorem dX6_takeEffect_58 : decode cX6_takeEffect 58 = .ok (.invokestatic 324, 3) := by decide +kernel
theorem dX6_takeEffect_61 : decode cX6_takeEffect 61 = .ok (.lor, 1) := by decide +kernel
theorem dX6_takeEffect_62 : decode cX6_takeEffect 62 = .ok (.lstore_n 2, 1) := by decide +kernel
theorem dX6_takeEffect_63 : decode cX6_takeEffect 63 = .ok (.aload 7, 2) := by decide +kernel
theorem dX6_takeEffect_65 : decode cX6_takeEffect 65 = .ok (.getfield 271, 3) := by decide +kernel
theorem dX6_takeEffect_68 : decode cX6_takeEffect 68 = .ok (.iconst (-1), 1) := by decide +kernel
theorem dX6_takeEffect_69 : decode cX6_takeEffect 69 = .ok (.if_icmp .ne 12, 3) := by decide +kernel
theorem dX6_takeEffect_72 : decode cX6_takeEffect 72 = .ok (.aload 7, 2) := by decide +kernel
theorem dX6_takeEffect_74 : decode cX6_takeEffect 74 = .ok (.aload_n 0, 1) := by decide +kernel
theorem dX6_takeEffect_75 : decode cX6_takeEffect 75 = .ok (.getfield 49, 3) := by decide +kernel
theorem dX6_takeEffect_78 : decode cX6_takeEffect 78 = .ok (.putfield 271, 3) := by decide +kernel
theorem dX6_takeEffect_81 : decode cX6_takeEffect 81 = .ok (.iinc 6 1, 3) := by decide +kernel
theorem dX6_takeEffect_84 : decode cX6_takeEffect 84 = .ok (.goto (-68), 3) := by decide +kernel
theorem dX6_takeEffect_87 : decode cX6_takeEffect 87 = .ok (.lload_n 2, 1) := by decide +kernel
theorem dX6_takeEffect_88 : decode cX6_takeEffect 88 = .ok (.lreturn, 1) := by decide +kernel
theorem dX6_bitOf_0 : decode cX6_bitOf 0 = .ok (.lconst 1, 1) := by decide +kernel
theorem dX6_bitOf_1 : decode cX6_bitOf 1 = .ok (.iload_n 0, 1) := by decide +kernel
theorem dX6_bitOf_2 : decode cX6_bitOf 2 = .ok (.lshl, 1) := by decide +kernel
theorem dX6_bitOf_3 : decode cX6_bitOf 3 = .ok (.lreturn, 1) := by decide +kernel
theorem dX6_sizeOfBest_0 : decode cX6_sizeOfBest 0 = .ok (.aload_n 0, 1) := by decide +kernel
theorem dX6_sizeOfBest_1 : decode cX6_sizeOfBest 1 = .ok (.getfield 39, 3) := by decide +kernel
theorem dX6_sizeOfBest_4 : decode cX6_sizeOfBest 4 = .ok (.invokevirtual 327, 3) := by decide +kernel
theorem dX6_sizeOfBest_7 : decode cX6_sizeOfBest 7 = .ok (.aload_n 1, 1) := by decide +kernel
theorem dX6_sizeOfBest_8 : decode cX6_sizeOfBest 8 = .ok (.iload_n 2, 1) := by decide +kernel
theorem dX6_sizeOfBest_9 : decode cX6_sizeOfBest 9 = .ok (.invokevirtual 206, 3) := by decide +kernel
theorem dX6_sizeOfBest_12 : decode cX6_sizeOfBest 12 = .ok (.bipush 111, 2) := by decide +kernel
theorem dX6_sizeOfBest_14 : decode cX6_sizeOfBest 14 = .ok (.if_icmp .ne 23, 3) := by decide +kernel
theorem dX6_sizeOfBest_17 : decode cX6_sizeOfBest 17 = .ok (.aload_n 0, 1) := by decide +kernel
theorem dX6_sizeOfBest_18 : decode cX6_sizeOfBest 18 = .ok (.getfield 36, 3) := by decide +kernel
theorem dX6_sizeOfBest_21 : decode cX6_sizeOfBest 21 = .ok (.aload_n 1, 1) := by decide +kernel
theorem dX6_sizeOfBest_22 : decode cX6_sizeOfBest 22 = .ok (.iload_n 2, 1) := by decide +kernel
theorem dX6_sizeOfBest_23 : decode cX6_sizeOfBest 23 = .ok (.invokevirtual 198, 3) := by decide +kernel
theorem dX6_sizeOfBest_26 : decode cX6_sizeOfBest 26 = .ok (.aload_n 0, 1) := by decide +kernel
theorem dX6_sizeOfBest_27 : decode cX6_sizeOfBest 27 = .ok (.getfield 36, 3) := by decide +kernel
theorem dX6_sizeOfBest_30 : decode cX6_sizeOfBest 30 = .ok (.aload_n 0, 1) := by decide +kernel
theorem dX6_sizeOfBest_31 : decode cX6_sizeOfBest 31 = .ok (.getfield 39, 3) := by decide +kernel
theorem dX6_sizeOfBest_34 : decode cX6_sizeOfBest 34 = .ok (.invokestatic 330, 3) := by decide +kernel
theorem dX6_sizeOfBest_37 : decode cX6_sizeOfBest 37 = .ok (.aload_n 0, 1) := by decide +kernel
theorem dX6_sizeOfBest_38 : decode cX6_sizeOfBest 38 = .ok (.getfield 39, 3) := by decide +kernel
theorem dX6_sizeOfBest_41 : decode cX6_sizeOfBest 41 = .ok (.getfield 225, 3) := by decide +kernel
theorem dX6_sizeOfBest_44 : decode cX6_sizeOfBest 44 = .ok (.ireturn, 1) := by decide +kernel
theorem dX6_findBest_0 : decode cX6_findBest 0 = .ok (.aload_n 0, 1) := by decide +kernel
theorem dX6_findBest_1 : decode cX6_findBest 1 = .ok (.invokevirtual 286, 3) := by decide +kernel
theorem dX6_findBest_4 : decode cX6_findBest 4 = .ok (.astore_n 2, 1) := by decide +kernel
theorem dX6_findBest_5 : decode cX6_findBest 5 = .ok (.aload_n 2, 1) := by decide +kernel
theorem dX6_findBest_6 : decode cX6_findBest 6 = .ok (.ifnull 21, 3) := by decide +kernel
theorem dX6_findBest_9 : decode cX6_findBest 9 = .ok (.aload_n 1, 1) := by decide +kernel
theorem dX6_findBest_10 : decode cX6_findBest 10 = .ok (.getfield 225, 3) := by decide +kernel
theorem dX6_findBest_13 : decode cX6_findBest 13 = .ok (.ifCond .le 15, 3) := by decide +kernel
theorem dX6_findBest_16 : decode cX6_findBest 16 = .ok (.aload_n 0, 1) := by decide +kernel
theorem dX6_findBest_17 : decode cX6_findBest 17 = .ok (.getfield 225, 3) := by decide +kernel
theorem dX6_findBest_20 : decode cX6_findBest 20 = .ok (.aload_n 1, 1) := by decide +kernel
theorem dX6_findBest_21 : decode cX6_findBest 21 = .ok (.getfield 225, 3) := by decide +kernel
theorem dX6_findBest_24 : decode cX6_findBest 24 = .ok (.if_icmp .lt 4, 3) := by decide +kernel
theorem dX6_findBest_27 : decode cX6_findBest 27 = .ok (.return_, 1) := by decide +kernel
theorem dX6_findBest_28 : decode cX6_findBest 28 = .ok (.aload_n 0, 1) := by decide +kernel
theorem dX6_findBest_29 : decode cX6_findBest 29 = .ok (.invokevirtual 228, 3) := by decide +kernel
theorem dX6_findBest_32 : decode cX6_findBest 32 = .ok (.ifCond .eq 9, 3) := by decide +kernel
theorem dX6_findBest_35 : decode cX6_findBest 35 = .ok (.aload_n 1, 1) := by decide +kernel
theorem dX6_findBest_36 : decode cX6_findBest 36 = .ok (.aload_n 0, 1) := by decide +kernel
theorem dX6_findBest_37 : decode cX6_findBest 37 = .ok (.invokevirtual 334, 3) := by decide +kernel
theorem dX6_findBest_40 : decode cX6_findBest 40 = .ok (.return_, 1) := by decide +kernel
theorem dX6_findBest_41 : decode cX6_findBest 41 = .ok (.iconst 0, 1) := by decide +kernel
theorem dX6_findBest_42 : decode cX6_findBest 42 = .ok (.istore_n 3, 1) := by decide +kernel
theorem dX6_findBest_43 : decode cX6_findBest 43 = .ok (.iload_n 3, 1) := by decide +kernel
theorem dX6_findBest_44 : decode cX6_findBest 44 = .ok (.iconst 3, 1) := by decide +kernel
theorem dX6_findBest_45 : decode cX6_findBest 45 = .ok (.if_icmp .ge 50, 3) := by decide +kernel
theorem dX6_findBest_48 : decode cX6_findBest 48 = .ok (.aload_n 2, 1) := by decide +kernel
theorem dX6_findBest_49 : decode cX6_findBest 49 = .ok (.iload_n 3, 1) := by decide +kernel
theorem dX6_findBest_50 : decode cX6_findBest 50 = .ok (.invokevirtual 281, 3) := by decide +kernel
theorem dX6_findBest_53 : decode cX6_findBest 53 = .ok (.astore 4, 2) := by decide +kernel
theorem dX6_findBest_55 : decode cX6_findBest 55 = .ok (.aload 4, 2) := by decide +kernel
theorem dX6_findBest_57 : decode cX6_findBest 57 = .ok (.ifnull 32, 3) := by decide +kernel
theorem dX6_findBest_60 : decode cX6_findBest 60 = .ok (.aload_n 0, 1) := by decide +kernel
theorem dX6_findBest_61 : decode cX6_findBest 61 = .ok (.aload 4, 2) := by decide +kernel
theorem dX6_findBest_63 : decode cX6_findBest 63 = .ok (.invokevirtual 217, 3) := by decide +kernel
theorem dX6_findBest_66 : decode cX6_findBest 66 = .ok (.bipush 111, 2) := by decide +kernel
theorem dX6_findBest_68 : decode cX6_findBest 68 = .ok (.if_icmp .ne 21, 3) := by decide +kernel
theorem dX6_findBest_71 : decode cX6_findBest 71 = .ok (.aload_n 0, 1) := by decide +kernel
theorem dX6_findBest_72 : decode cX6_findBest 72 = .ok (.aload 4, 2) := by decide +kernel
theorem dX6_findBest_74 : decode cX6_findBest 74 = .ok (.invokevirtual 221, 3) := by decide +kernel
theorem dX6_findBest_77 : decode cX6_findBest 77 = .ok (.ifCond .eq 12, 3) := by decide +kernel
theorem dX6_findBest_80 : decode cX6_findBest 80 = .ok (.aload_n 0, 1) := by decide +kernel
theorem dX6_findBest_81 : decode cX6_findBest 81 = .ok (.aload_n 1, 1) := by decide +kernel
theorem dX6_findBest_82 : decode cX6_findBest 82 = .ok (.invokestatic 330, 3) := by decide +kernel
theorem dX6_findBest_85 : decode cX6_findBest 85 = .ok (.aload_n 0, 1) := by decide +kernel
theorem dX6_findBest_86 : decode cX6_findBest 86 = .ok (.invokevirtual 338, 3) := by decide +kernel
theorem dX6_findBest_89 : decode cX6_findBest 89 = .ok (.iinc 3 1, 3) := by decide +kernel
theorem dX6_findBest_92 : decode cX6_findBest 92 = .ok (.goto (-49), 3) := by decide +kernel
theorem dX6_findBest_95 : decode cX6_findBest 95 = .ok (.return_, 1) := by decide +kernel
theorem dX6_countLengthened_0 : decode cX6_countLengthened 0 = .ok (.aload_n 0, 1) := by decide +kernel
theorem dX6_countLengthened_1 : decode cX6_countLengthened 1 = .ok (.invokevirtual 286, 3) := by decide +kernel
theorem dX6_countLengthened_4 : decode cX6_countLengthened 4 = .ok (.astore_n 1, 1) := by decide +kernel
theorem dX6_countLengthened_5 : decode cX6_countLengthened 5 = .ok (.aload_n 1, 1) := by decide +kernel
theorem dX6_countLengthened_6 : decode cX6_countLengthened 6 = .ok (.ifnonnull 5, 3) := by decide +kernel
theorem dX6_countLengthened_9 : decode cX6_countLengthened 9 = .ok (.iconst 0, 1) := by decide +kernel
theorem dX6_countLengthened_10 : decode cX6_countLengthened 10 = .ok (.ireturn, 1) := by decide +kernel
theorem dX6_countLengthened_11 : decode cX6_countLengthened 11 = .ok (.aload_n 0, 1) := by decide +kernel
theorem dX6_countLengthened_12 : decode cX6_countLengthened 12 = .ok (.invokevirtual 228, 3) := by decide +kernel
theorem dX6_countLengthened_15 : decode cX6_countLengthened 15 = .ok (.ifCond .eq 7, 3) := by decide +kernel
theorem dX6_countLengthened_18 : decode cX6_countLengthened 18 = .ok (.iconst 1, 1) := by decide +kernel
theorem dX6_countLengthened_19 : decode cX6_countLengthened 19 = .ok (.goto 4, 3) := by decide +kernel
theorem dX6_countLengthened_22 : decode cX6_countLengthened 22 = .ok (.iconst 0, 1) := by decide +kernel
theorem dX6_countLengthened_23 : decode cX6_countLengthened 23 = .ok (.istore_n 2, 1) := by decide +kernel
theorem dX6_countLengthened_24 : decode cX6_countLengthened 24 = .ok (.iconst 0, 1) := by decide +kernel
theorem dX6_countLengthened_25 : decode cX6_countLengthened 25 = .ok (.istore_n 3, 1) := by decide +kernel
theorem dX6_countLengthened_26 : decode cX6_countLengthened 26 = .ok (.iload_n 3, 1) := by decide +kernel
theorem dX6_countLengthened_27 : decode cX6_countLengthened 27 = .ok (.iconst 3, 1) := by decide +kernel
theorem dX6_countLengthened_28 : decode cX6_countLengthened 28 = .ok (.if_icmp .ge 52, 3) := by decide +kernel
theorem dX6_countLengthened_31 : decode cX6_countLengthened 31 = .ok (.aload_n 1, 1) := by decide +kernel
theorem dX6_countLengthened_32 : decode cX6_countLengthened 32 = .ok (.iload_n 3, 1) := by decide +kernel
theorem dX6_countLengthened_33 : decode cX6_countLengthened 33 = .ok (.invokevirtual 281, 3) := by decide +kernel
theorem dX6_countLengthened_36 : decode cX6_countLengthened 36 = .ok (.astore 4, 2) := by decide +kernel
theorem dX6_countLengthened_38 : decode cX6_countLengthened 38 = .ok (.aload 4, 2) := by decide +kernel
theorem dX6_countLengthened_40 : decode cX6_countLengthened 40 = .ok (.ifnull 34, 3) := by decide +kernel
theorem dX6_countLengthened_43 : decode cX6_countLengthened 43 = .ok (.aload_n 0, 1) := by decide +kernel
theorem dX6_countLengthened_44 : decode cX6_countLengthened 44 = .ok (.aload 4, 2) := by decide +kernel
theorem dX6_countLengthened_46 : decode cX6_countLengthened 46 = .ok (.invokevirtual 217, 3) := by decide +kernel
theorem dX6_countLengthened_49 : decode cX6_countLengthened 49 = .ok (.bipush 111, 2) := by decide +kernel
theorem dX6_countLengthened_51 : decode cX6_countLengthened 51 = .ok (.if_icmp .ne 23, 3) := by decide +kernel
theorem dX6_countLengthened_54 : decode cX6_countLengthened 54 = .ok (.aload_n 0, 1) := by decide +kernel
theorem dX6_countLengthened_55 : decode cX6_countLengthened 55 = .ok (.aload 4, 2) := by decide +kernel
theorem dX6_countLengthened_57 : decode cX6_countLengthened 57 = .ok (.invokevirtual 221, 3) := by decide +kernel
theorem dX6_countLengthened_60 : decode cX6_countLengthened 60 = .ok (.ifCond .eq 14, 3) := by decide +kernel
theorem dX6_countLengthened_63 : decode cX6_countLengthened 63 = .ok (.iload_n 2, 1) := by decide +kernel
theorem dX6_countLengthened_64 : decode cX6_countLengthened 64 = .ok (.aload_n 0, 1) := by decide +kernel
theorem dX6_countLengthened_65 : decode cX6_countLengthened 65 = .ok (.invokestatic 210, 3) := by decide +kernel
theorem dX6_countLengthened_68 : decode cX6_countLengthened 68 = .ok (.iadd, 1) := by decide +kernel
theorem dX6_countLengthened_69 : decode cX6_countLengthened 69 = .ok (.istore_n 2, 1) := by decide +kernel
theorem dX6_countLengthened_70 : decode cX6_countLengthened 70 = .ok (.aload_n 0, 1) := by decide +kernel
