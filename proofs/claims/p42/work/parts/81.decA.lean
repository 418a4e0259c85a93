theorem dL_cell_0 : decode cL_cell 0 = .ok (.ldc 7, 2) := by decide +kernel
theorem dL_cell_2 : decode cL_cell 2 = .ok (.iload_n 1, 1) := by decide +kernel
theorem dL_cell_3 : decode cL_cell 3 = .ok (.aload_n 0, 1) := by decide +kernel
theorem dL_cell_4 : decode cL_cell 4 = .ok (.arraylength, 1) := by decide +kernel
theorem dL_cell_5 : decode cL_cell 5 = .ok (.if_icmp .ge 9, 3) := by decide +kernel
theorem dL_cell_8 : decode cL_cell 8 = .ok (.aload_n 0, 1) := by decide +kernel
theorem dL_cell_9 : decode cL_cell 9 = .ok (.iload_n 1, 1) := by decide +kernel
theorem dL_cell_10 : decode cL_cell 10 = .ok (.iaload, 1) := by decide +kernel
theorem dL_cell_11 : decode cL_cell 11 = .ok (.goto 4, 3) := by decide +kernel
theorem dL_cell_14 : decode cL_cell 14 = .ok (.iconst 0, 1) := by decide +kernel
theorem dL_cell_15 : decode cL_cell 15 = .ok (.sipush 1009, 3) := by decide +kernel
theorem dL_cell_18 : decode cL_cell 18 = .ok (.iload_n 1, 1) := by decide +kernel
theorem dL_cell_19 : decode cL_cell 19 = .ok (.imul, 1) := by decide +kernel
theorem dL_cell_20 : decode cL_cell 20 = .ok (.iadd, 1) := by decide +kernel
theorem dL_cell_21 : decode cL_cell 21 = .ok (.imul, 1) := by decide +kernel
theorem dL_cell_22 : decode cL_cell 22 = .ok (.sipush 12345, 3) := by decide +kernel
theorem dL_cell_25 : decode cL_cell 25 = .ok (.iadd, 1) := by decide +kernel
theorem dL_cell_26 : decode cL_cell 26 = .ok (.istore_n 2, 1) := by decide +kernel
theorem dL_cell_27 : decode cL_cell 27 = .ok (.iload_n 2, 1) := by decide +kernel
theorem dL_cell_28 : decode cL_cell 28 = .ok (.iload_n 2, 1) := by decide +kernel
theorem dL_cell_29 : decode cL_cell 29 = .ok (.bipush 13, 2) := by decide +kernel
theorem dL_cell_31 : decode cL_cell 31 = .ok (.iushr, 1) := by decide +kernel
theorem dL_cell_32 : decode cL_cell 32 = .ok (.ixor, 1) := by decide +kernel
theorem dL_cell_33 : decode cL_cell 33 = .ok (.ldc 8, 2) := by decide +kernel
theorem dL_cell_35 : decode cL_cell 35 = .ok (.imul, 1) := by decide +kernel
theorem dL_cell_36 : decode cL_cell 36 = .ok (.istore_n 2, 1) := by decide +kernel
theorem dL_cell_37 : decode cL_cell 37 = .ok (.iload_n 2, 1) := by decide +kernel
theorem dL_cell_38 : decode cL_cell 38 = .ok (.iload_n 2, 1) := by decide +kernel
theorem dL_cell_39 : decode cL_cell 39 = .ok (.bipush 16, 2) := by decide +kernel
theorem dL_cell_41 : decode cL_cell 41 = .ok (.iushr, 1) := by decide +kernel
theorem dL_cell_42 : decode cL_cell 42 = .ok (.ixor, 1) := by decide +kernel
theorem dL_cell_43 : decode cL_cell 43 = .ok (.ireturn, 1) := by decide +kernel
theorem dL_meanChain_0 : decode cL_meanChain 0 = .ok (.aload_n 0, 1) := by decide +kernel
theorem dL_meanChain_1 : decode cL_meanChain 1 = .ok (.invokevirtual 9, 3) := by decide +kernel
theorem dL_meanChain_4 : decode cL_meanChain 4 = .ok (.dreturn, 1) := by decide +kernel
theorem dL_meanChain_5 : decode cL_meanChain 5 = .ok (.astore_n 1, 1) := by decide +kernel
theorem dL_meanChain_6 : decode cL_meanChain 6 = .ok (.ldc2_w 17, 3) := by decide +kernel
theorem dL_meanChain_9 : decode cL_meanChain 9 = .ok (.dreturn, 1) := by decide +kernel
theorem dL_soundShare_0 : decode cL_soundShare 0 = .ok (.aload_n 0, 1) := by decide +kernel
theorem dL_soundShare_1 : decode cL_soundShare 1 = .ok (.invokevirtual 19, 3) := by decide +kernel
theorem dL_soundShare_4 : decode cL_soundShare 4 = .ok (.freturn, 1) := by decide +kernel
theorem dL_soundShare_5 : decode cL_soundShare 5 = .ok (.astore_n 1, 1) := by decide +kernel
theorem dL_soundShare_6 : decode cL_soundShare 6 = .ok (.ldc 23, 2) := by decide +kernel
theorem dL_soundShare_8 : decode cL_soundShare 8 = .ok (.freturn, 1) := by decide +kernel
theorem dL_makeRoot_0 : decode cL_makeRoot 0 = .ok (.aload_n 0, 1) := by decide +kernel
theorem dL_makeRoot_1 : decode cL_makeRoot 1 = .ok (.iload_n 1, 1) := by decide +kernel
theorem dL_makeRoot_2 : decode cL_makeRoot 2 = .ok (.iload_n 2, 1) := by decide +kernel
theorem dL_makeRoot_3 : decode cL_makeRoot 3 = .ok (.iload_n 3, 1) := by decide +kernel
theorem dL_makeRoot_4 : decode cL_makeRoot 4 = .ok (.invokevirtual 24, 3) := by decide +kernel
theorem dL_makeRoot_7 : decode cL_makeRoot 7 = .ok (.ireturn, 1) := by decide +kernel
theorem dL_makeRoot_8 : decode cL_makeRoot 8 = .ok (.astore 4, 2) := by decide +kernel
theorem dL_makeRoot_10 : decode cL_makeRoot 10 = .ok (.ldc 30, 2) := by decide +kernel
theorem dL_makeRoot_12 : decode cL_makeRoot 12 = .ok (.ireturn, 1) := by decide +kernel
theorem dL_makeRoot_13 : decode cL_makeRoot 13 = .ok (.astore 4, 2) := by decide +kernel
theorem dL_makeRoot_15 : decode cL_makeRoot 15 = .ok (.ldc 33, 2) := by decide +kernel
theorem dL_makeRoot_17 : decode cL_makeRoot 17 = .ok (.ireturn, 1) := by decide +kernel
theorem dL_issue_0 : decode cL_issue 0 = .ok (.aload_n 0, 1) := by decide +kernel
theorem dL_issue_1 : decode cL_issue 1 = .ok (.iload_n 1, 1) := by decide +kernel
theorem dL_issue_2 : decode cL_issue 2 = .ok (.iload_n 2, 1) := by decide +kernel
theorem dL_issue_3 : decode cL_issue 3 = .ok (.iload_n 3, 1) := by decide +kernel
theorem dL_issue_4 : decode cL_issue 4 = .ok (.invokevirtual 34, 3) := by decide +kernel
theorem dL_issue_7 : decode cL_issue 7 = .ok (.ireturn, 1) := by decide +kernel
theorem dL_issue_8 : decode cL_issue 8 = .ok (.astore 4, 2) := by decide +kernel
theorem dL_issue_10 : decode cL_issue 10 = .ok (.ldc 30, 2) := by decide +kernel
theorem dL_issue_12 : decode cL_issue 12 = .ok (.ireturn, 1) := by decide +kernel
theorem dL_issue_13 : decode cL_issue 13 = .ok (.astore 4, 2) := by decide +kernel
theorem dL_issue_15 : decode cL_issue 15 = .ok (.ldc 33, 2) := by decide +kernel
theorem dL_issue_17 : decode cL_issue 17 = .ok (.ireturn, 1) := by decide +kernel
theorem dL_issue_18 : decode cL_issue 18 = .ok (.astore 4, 2) := by decide +kernel
theorem dL_issue_20 : decode cL_issue 20 = .ok (.ldc 39, 2) := by decide +kernel
theorem dL_issue_22 : decode cL_issue 22 = .ok (.ireturn, 1) := by decide +kernel
theorem dL_issueAuthority_0 : decode cL_issueAuthority 0 = .ok (.aload_n 0, 1) := by decide +kernel
theorem dL_issueAuthority_1 : decode cL_issueAuthority 1 = .ok (.iload_n 1, 1) := by decide +kernel
theorem dL_issueAuthority_2 : decode cL_issueAuthority 2 = .ok (.iload_n 2, 1) := by decide +kernel
theorem dL_issueAuthority_3 : decode cL_issueAuthority 3 = .ok (.iload_n 3, 1) := by decide +kernel
theorem dL_issueAuthority_4 : decode cL_issueAuthority 4 = .ok (.iload 4, 2) := by decide +kernel
theorem dL_issueAuthority_6 : decode cL_issueAuthority 6 = .ok (.invokevirtual 40, 3) := by decide +kernel
theorem dL_issueAuthority_9 : decode cL_issueAuthority 9 = .ok (.ireturn, 1) := by decide +kernel
theorem dL_issueAuthority_10 : decode cL_issueAuthority 10 = .ok (.astore 5, 2) := by decide +kernel
theorem dL_issueAuthority_12 : decode cL_issueAuthority 12 = .ok (.ldc 30, 2) := by decide +kernel
theorem dL_issueAuthority_14 : decode cL_issueAuthority 14 = .ok (.ireturn, 1) := by decide +kernel
theorem dL_issueAuthority_15 : decode cL_issueAuthority 15 = .ok (.astore 5, 2) := by decide +kernel
theorem dL_issueAuthority_17 : decode cL_issueAuthority 17 = .ok (.ldc 33, 2) := by decide +kernel
theorem dL_issueAuthority_19 : decode cL_issueAuthority 19 = .ok (.ireturn, 1) := by decide +kernel
theorem dL_issueAuthority_20 : decode cL_issueAuthority 20 = .ok (.astore 5, 2) := by decide +kernel
theorem dL_issueAuthority_22 : decode cL_issueAuthority 22 = .ok (.ldc 39, 2) := by decide +kernel
theorem dL_issueAuthority_24 : decode cL_issueAuthority 24 = .ok (.ireturn, 1) := by decide +kernel
theorem dL_cross_0 : decode cL_cross 0 = .ok (.aload_n 0, 1) := by decide +kernel
theorem dL_cross_1 : decode cL_cross 1 = .ok (.iload_n 1, 1) := by decide +kernel
theorem dL_cross_2 : decode cL_cross 2 = .ok (.iload_n 2, 1) := by decide +kernel
theorem dL_cross_3 : decode cL_cross 3 = .ok (.iload_n 3, 1) := by decide +kernel
theorem dL_cross_4 : decode cL_cross 4 = .ok (.iload 4, 2) := by decide +kernel
theorem dL_cross_6 : decode cL_cross 6 = .ok (.invokevirtual 44, 3) := by decide +kernel
theorem dL_cross_9 : decode cL_cross 9 = .ok (.ireturn, 1) := by decide +kernel
theorem dL_cross_10 : decode cL_cross 10 = .ok (.astore 5, 2) := by decide +kernel
theorem dL_cross_12 : decode cL_cross 12 = .ok (.ldc 30, 2) := by decide +kernel
theorem dL_cross_14 : decode cL_cross 14 = .ok (.ireturn, 1) := by decide +kernel
theorem dL_cross_15 : decode cL_cross 15 = .ok (.astore 5, 2) := by decide +kernel
theorem dL_cross_17 : decode cL_cross 17 = .ok (.ldc 33, 2) := by decide +kernel
theorem dL_cross_19 : decode cL_cross 19 = .ok (.ireturn, 1) := by decide +kernel
theorem dL_cross_20 : decode cL_cross 20 = .ok (.astore 5, 2) := by decide +kernel
theorem dL_cross_22 : decode cL_cross 22 = .ok (.ldc 39, 2) := by decide +kernel
theorem dL_cross_24 : decode cL_cross 24 = .ok (.ireturn, 1) := by decide +kernel
theorem dL_setNames_0 : decode cL_setNames 0 = .ok (.aload_n 0, 1) := by decide +kernel
theorem dL_setNames_1 : decode cL_setNames 1 = .ok (.iload_n 1, 1) := by decide +kernel
theorem dL_setNames_2 : decode cL_setNames 2 = .ok (.iload_n 2, 1) := by decide +kernel
theorem dL_setNames_3 : decode cL_setNames 3 = .ok (.iload_n 3, 1) := by decide +kernel
theorem dL_setNames_4 : decode cL_setNames 4 = .ok (.invokevirtual 47, 3) := by decide +kernel
theorem dL_setNames_7 : decode cL_setNames 7 = .ok (.ireturn, 1) := by decide +kernel
theorem dL_setNames_8 : decode cL_setNames 8 = .ok (.astore 4, 2) := by decide +kernel
theorem dL_setNames_10 : decode cL_setNames 10 = .ok (.ldc 30, 2) := by decide +kernel
theorem dL_setNames_12 : decode cL_setNames 12 = .ok (.ireturn, 1) := by decide +kernel
theorem dL_setNames_13 : decode cL_setNames 13 = .ok (.astore 4, 2) := by decide +kernel
theorem dL_setNames_15 : decode cL_setNames 15 = .ok (.ldc 33, 2) := by decide +kernel
theorem dL_setNames_17 : decode cL_setNames 17 = .ok (.ireturn, 1) := by decide +kernel
theorem dL_setNames_18 : decode cL_setNames 18 = .ok (.astore 4, 2) := by decide +kernel
theorem dL_setNames_20 : decode cL_setNames 20 = .ok (.ldc 39, 2) := by decide +kernel
theorem dL_setNames_22 : decode cL_setNames 22 = .ok (.ireturn, 1) := by decide +kernel
theorem dL_trust_0 : decode cL_trust 0 = .ok (.aload_n 0, 1) := by decide +kernel
theorem dL_trust_1 : decode cL_trust 1 = .ok (.iload_n 1, 1) := by decide +kernel
theorem dL_trust_2 : decode cL_trust 2 = .ok (.iload_n 2, 1) := by decide +kernel
theorem dL_trust_3 : decode cL_trust 3 = .ok (.invokevirtual 50, 3) := by decide +kernel
theorem dL_trust_6 : decode cL_trust 6 = .ok (.ireturn, 1) := by decide +kernel
theorem dL_trust_7 : decode cL_trust 7 = .ok (.astore_n 3, 1) := by decide +kernel
theorem dL_trust_8 : decode cL_trust 8 = .ok (.ldc 30, 2) := by decide +kernel
theorem dL_trust_10 : decode cL_trust 10 = .ok (.ireturn, 1) := by decide +kernel
theorem dL_trust_11 : decode cL_trust 11 = .ok (.astore_n 3, 1) := by decide +kernel
theorem dL_trust_12 : decode cL_trust 12 = .ok (.ldc 33, 2) := by decide +kernel
theorem dL_trust_14 : decode cL_trust 14 = .ok (.ireturn, 1) := by decide +kernel
theorem dL_revoke_0 : decode cL_revoke 0 = .ok (.aload_n 0, 1) := by decide +kernel
theorem dL_revoke_1 : decode cL_revoke 1 = .ok (.iload_n 1, 1) := by decide +kernel
theorem dL_revoke_2 : decode cL_revoke 2 = .ok (.invokevirtual 54, 3) := by decide +kernel
theorem dL_revoke_5 : decode cL_revoke 5 = .ok (.ireturn, 1) := by decide +kernel
theorem dL_revoke_6 : decode cL_revoke 6 = .ok (.astore_n 2, 1) := by decide +kernel
theorem dL_revoke_7 : decode cL_revoke 7 = .ok (.ldc 30, 2) := by decide +kernel
theorem dL_revoke_9 : decode cL_revoke 9 = .ok (.ireturn, 1) := by decide +kernel
theorem dL_revoke_10 : decode cL_revoke 10 = .ok (.astore_n 2, 1) := by decide +kernel
theorem dL_revoke_11 : decode cL_revoke 11 = .ok (.ldc 33, 2) := by decide +kernel
theorem dL_revoke_13 : decode cL_revoke 13 = .ok (.ireturn, 1) := by decide +kernel
theorem dL_publish_0 : decode cL_publish 0 = .ok (.aload_n 0, 1) := by decide +kernel
theorem dL_publish_1 : decode cL_publish 1 = .ok (.iload_n 1, 1) := by decide +kernel
theorem dL_publish_2 : decode cL_publish 2 = .ok (.invokevirtual 58, 3) := by decide +kernel
theorem dL_publish_5 : decode cL_publish 5 = .ok (.ireturn, 1) := by decide +kernel
theorem dL_publish_6 : decode cL_publish 6 = .ok (.astore_n 2, 1) := by decide +kernel
theorem dL_publish_7 : decode cL_publish 7 = .ok (.ldc 30, 2) := by decide +kernel
theorem dL_publish_9 : decode cL_publish 9 = .ok (.ireturn, 1) := by decide +kernel
theorem dL_publish_10 : decode cL_publish 10 = .ok (.astore_n 2, 1) := by decide +kernel
theorem dL_publish_11 : decode cL_publish 11 = .ok (.ldc 33, 2) := by decide +kernel
theorem dL_publish_13 : decode cL_publish 13 = .ok (.ireturn, 1) := by decide +kernel
theorem dL_pass_0 : decode cL_pass 0 = .ok (.aload_n 0, 1) := by decide +kernel
theorem dL_pass_1 : decode cL_pass 1 = .ok (.iload_n 1, 1) := by decide +kernel
theorem dL_pass_2 : decode cL_pass 2 = .ok (.invokevirtual 61, 3) := by decide +kernel
theorem dL_pass_5 : decode cL_pass 5 = .ok (.ireturn, 1) := by decide +kernel
theorem dL_pass_6 : decode cL_pass 6 = .ok (.astore_n 2, 1) := by decide +kernel
theorem dL_pass_7 : decode cL_pass 7 = .ok (.ldc 30, 2) := by decide +kernel
theorem dL_pass_9 : decode cL_pass 9 = .ok (.ireturn, 1) := by decide +kernel
theorem dL_kindOf_0 : decode cL_kindOf 0 = .ok (.aload_n 0, 1) := by decide +kernel
theorem dL_kindOf_1 : decode cL_kindOf 1 = .ok (.iload_n 1, 1) := by decide +kernel
theorem dL_kindOf_2 : decode cL_kindOf 2 = .ok (.invokevirtual 64, 3) := by decide +kernel
theorem dL_kindOf_5 : decode cL_kindOf 5 = .ok (.ireturn, 1) := by decide +kernel
theorem dL_kindOf_6 : decode cL_kindOf 6 = .ok (.astore_n 2, 1) := by decide +kernel
theorem dL_kindOf_7 : decode cL_kindOf 7 = .ok (.ldc 30, 2) := by decide +kernel
theorem dL_kindOf_9 : decode cL_kindOf 9 = .ok (.ireturn, 1) := by decide +kernel
theorem dL_candidateAt_0 : decode cL_candidateAt 0 = .ok (.aload_n 0, 1) := by decide +kernel
theorem dL_candidateAt_1 : decode cL_candidateAt 1 = .ok (.iload_n 1, 1) := by decide +kernel
theorem dL_candidateAt_2 : decode cL_candidateAt 2 = .ok (.iload_n 2, 1) := by decide +kernel
theorem dL_candidateAt_3 : decode cL_candidateAt 3 = .ok (.invokevirtual 68, 3) := by decide +kernel
theorem dL_candidateAt_6 : decode cL_candidateAt 6 = .ok (.ireturn, 1) := by decide +kernel
theorem dL_candidateAt_7 : decode cL_candidateAt 7 = .ok (.astore_n 3, 1) := by decide +kernel
theorem dL_candidateAt_8 : decode cL_candidateAt 8 = .ok (.ldc 30, 2) := by decide +kernel
theorem dL_candidateAt_10 : decode cL_candidateAt 10 = .ok (.ireturn, 1) := by decide +kernel
theorem dL_candidateAt_11 : decode cL_candidateAt 11 = .ok (.astore_n 3, 1) := by decide +kernel
theorem dL_candidateAt_12 : decode cL_candidateAt 12 = .ok (.ldc 33, 2) := by decide +kernel
theorem dL_candidateAt_14 : decode cL_candidateAt 14 = .ok (.ireturn, 1) := by decide +kernel
theorem dL_chainSize_0 : decode cL_chainSize 0 = .ok (.aload_n 0, 1) := by decide +kernel
theorem dL_chainSize_1 : decode cL_chainSize 1 = .ok (.iload_n 1, 1) := by decide +kernel
theorem dL_chainSize_2 : decode cL_chainSize 2 = .ok (.iload_n 2, 1) := by decide +kernel
theorem dL_chainSize_3 : decode cL_chainSize 3 = .ok (.invokevirtual 74, 3) := by decide +kernel
theorem dL_chainSize_6 : decode cL_chainSize 6 = .ok (.ireturn, 1) := by decide +kernel
theorem dL_chainSize_7 : decode cL_chainSize 7 = .ok (.astore_n 3, 1) := by decide +kernel
theorem dL_chainSize_8 : decode cL_chainSize 8 = .ok (.ldc 30, 2) := by decide +kernel
theorem dL_chainSize_10 : decode cL_chainSize 10 = .ok (.ireturn, 1) := by decide +kernel
theorem dL_chainSize_11 : decode cL_chainSize 11 = .ok (.astore_n 3, 1) := by decide +kernel
theorem dL_chainSize_12 : decode cL_chainSize 12 = .ok (.ldc 33, 2) := by decide +kernel
theorem dL_chainSize_14 : decode cL_chainSize 14 = .ok (.ireturn, 1) := by decide +kernel
theorem dL_chainAt_0 : decode cL_chainAt 0 = .ok (.aload_n 0, 1) := by decide +kernel
theorem dL_chainAt_1 : decode cL_chainAt 1 = .ok (.iload_n 1, 1) := by decide +kernel
theorem dL_chainAt_2 : decode cL_chainAt 2 = .ok (.iload_n 2, 1) := by decide +kernel
theorem dL_chainAt_3 : decode cL_chainAt 3 = .ok (.iload_n 3, 1) := by decide +kernel
theorem dL_chainAt_4 : decode cL_chainAt 4 = .ok (.invokevirtual 77, 3) := by decide +kernel
theorem dL_chainAt_7 : decode cL_chainAt 7 = .ok (.ireturn, 1) := by decide +kernel
theorem dL_chainAt_8 : decode cL_chainAt 8 = .ok (.astore 4, 2) := by decide +kernel
theorem dL_chainAt_10 : decode cL_chainAt 10 = .ok (.ldc 30, 2) := by decide +kernel
theorem dL_chainAt_12 : decode cL_chainAt 12 = .ok (.ireturn, 1) := by decide +kernel
theorem dL_chainAt_13 : decode cL_chainAt 13 = .ok (.astore 4, 2) := by decide +kernel
theorem dL_chainAt_15 : decode cL_chainAt 15 = .ok (.ldc 33, 2) := by decide +kernel
theorem dL_chainAt_17 : decode cL_chainAt 17 = .ok (.ireturn, 1) := by decide +kernel
theorem dL_chainAt_18 : decode cL_chainAt 18 = .ok (.astore 4, 2) := by decide +kernel
theorem dL_chainAt_20 : decode cL_chainAt 20 = .ok (.ldc 39, 2) := by decide +kernel
theorem dL_chainAt_22 : decode cL_chainAt 22 = .ok (.ireturn, 1) := by decide +kernel
theorem dL_goodChains_0 : decode cL_goodChains 0 = .ok (.aload_n 0, 1) := by decide +kernel
theorem dL_goodChains_1 : decode cL_goodChains 1 = .ok (.iload_n 1, 1) := by decide +kernel
theorem dL_goodChains_2 : decode cL_goodChains 2 = .ok (.iload_n 2, 1) := by decide +kernel
theorem dL_goodChains_3 : decode cL_goodChains 3 = .ok (.invokevirtual 80, 3) := by decide +kernel
theorem dL_goodChains_6 : decode cL_goodChains 6 = .ok (.ireturn, 1) := by decide +kernel
theorem dL_goodChains_7 : decode cL_goodChains 7 = .ok (.astore_n 3, 1) := by decide +kernel
theorem dL_goodChains_8 : decode cL_goodChains 8 = .ok (.ldc 30, 2) := by decide +kernel
theorem dL_goodChains_10 : decode cL_goodChains 10 = .ok (.ireturn, 1) := by decide +kernel
theorem dL_goodChains_11 : decode cL_goodChains 11 = .ok (.astore_n 3, 1) := by decide +kernel
theorem dL_goodChains_12 : decode cL_goodChains 12 = .ok (.ldc 33, 2) := by decide +kernel
theorem dL_goodChains_14 : decode cL_goodChains 14 = .ok (.ireturn, 1) := by decide +kernel
theorem dL_begin_0 : decode cL_begin 0 = .ok (.aload_n 0, 1) := by decide +kernel
theorem dL_begin_1 : decode cL_begin 1 = .ok (.iload_n 1, 1) := by decide +kernel
theorem dL_begin_2 : decode cL_begin 2 = .ok (.iload_n 2, 1) := by decide +kernel
theorem dL_begin_3 : decode cL_begin 3 = .ok (.invokevirtual 83, 3) := by decide +kernel
theorem dL_begin_6 : decode cL_begin 6 = .ok (.ireturn, 1) := by decide +kernel
theorem dL_begin_7 : decode cL_begin 7 = .ok (.astore_n 3, 1) := by decide +kernel
theorem dL_begin_8 : decode cL_begin 8 = .ok (.ldc 30, 2) := by decide +kernel
theorem dL_begin_10 : decode cL_begin 10 = .ok (.ireturn, 1) := by decide +kernel
theorem dL_begin_11 : decode cL_begin 11 = .ok (.astore_n 3, 1) := by decide +kernel
theorem dL_begin_12 : decode cL_begin 12 = .ok (.ldc 33, 2) := by decide +kernel
theorem dL_begin_14 : decode cL_begin 14 = .ok (.ireturn, 1) := by decide +kernel
theorem dL_step_0 : decode cL_step 0 = .ok (.aload_n 0, 1) := by decide +kernel
theorem dL_step_1 : decode cL_step 1 = .ok (.iload_n 1, 1) := by decide +kernel
theorem dL_step_2 : decode cL_step 2 = .ok (.invokevirtual 87, 3) := by decide +kernel
theorem dL_step_5 : decode cL_step 5 = .ok (.ireturn, 1) := by decide +kernel
theorem dL_step_6 : decode cL_step 6 = .ok (.astore_n 2, 1) := by decide +kernel
theorem dL_step_7 : decode cL_step 7 = .ok (.ldc 30, 2) := by decide +kernel
theorem dL_step_9 : decode cL_step 9 = .ok (.ireturn, 1) := by decide +kernel
theorem dL_step_10 : decode cL_step 10 = .ok (.astore_n 2, 1) := by decide +kernel
theorem dL_step_11 : decode cL_step 11 = .ok (.ldc 33, 2) := by decide +kernel
theorem dL_step_13 : decode cL_step 13 = .ok (.ireturn, 1) := by decide +kernel
theorem dL_reached_0 : decode cL_reached 0 = .ok (.aload_n 0, 1) := by decide +kernel
theorem dL_reached_1 : decode cL_reached 1 = .ok (.invokevirtual 90, 3) := by decide +kernel
theorem dL_reached_4 : decode cL_reached 4 = .ok (.ireturn, 1) := by decide +kernel
theorem dL_reached_5 : decode cL_reached 5 = .ok (.astore_n 1, 1) := by decide +kernel
theorem dL_reached_6 : decode cL_reached 6 = .ok (.ldc 30, 2) := by decide +kernel
theorem dL_reached_8 : decode cL_reached 8 = .ok (.ireturn, 1) := by decide +kernel
theorem dL_in_0 : decode cL_in 0 = .ok (.aload_n 0, 1) := by decide +kernel
theorem dL_in_1 : decode cL_in 1 = .ok (.iload_n 1, 1) := by decide +kernel
theorem dL_in_2 : decode cL_in 2 = .ok (.invokestatic 94, 3) := by decide +kernel
theorem dL_in_5 : decode cL_in 5 = .ok (.ldc 100, 2) := by decide +kernel
theorem dL_in_7 : decode cL_in 7 = .ok (.iand, 1) := by decide +kernel
theorem dL_in_8 : decode cL_in 8 = .ok (.iload_n 2, 1) := by decide +kernel
theorem dL_in_9 : decode cL_in 9 = .ok (.irem, 1) := by decide +kernel
theorem dL_in_10 : decode cL_in 10 = .ok (.ireturn, 1) := by decide +kernel
theorem dL_name_0 : decode cL_name 0 = .ok (.iload_n 2, 1) := by decide +kernel
theorem dL_name_1 : decode cL_name 1 = .ok (.istore_n 3, 1) := by decide +kernel
theorem dL_name_2 : decode cL_name 2 = .ok (.aload_n 0, 1) := by decide +kernel
theorem dL_name_3 : decode cL_name 3 = .ok (.iload_n 1, 1) := by decide +kernel
theorem dL_name_4 : decode cL_name 4 = .ok (.iconst 3, 1) := by decide +kernel
theorem dL_name_5 : decode cL_name 5 = .ok (.invokestatic 101, 3) := by decide +kernel
theorem dL_name_8 : decode cL_name 8 = .ok (.istore 4, 2) := by decide +kernel
theorem dL_name_10 : decode cL_name 10 = .ok (.iload 4, 2) := by decide +kernel
theorem dL_name_12 : decode cL_name 12 = .ok (.ifCond .lt 35, 3) := by decide +kernel
theorem dL_name_15 : decode cL_name 15 = .ok (.iload_n 3, 1) := by decide +kernel
theorem dL_name_16 : decode cL_name 16 = .ok (.sipush 1000, 3) := by decide +kernel
theorem dL_name_19 : decode cL_name 19 = .ok (.if_icmp .ge 28, 3) := by decide +kernel
theorem dL_name_22 : decode cL_name 22 = .ok (.bipush 10, 2) := by decide +kernel
theorem dL_name_24 : decode cL_name 24 = .ok (.iload_n 3, 1) := by decide +kernel
theorem dL_name_25 : decode cL_name 25 = .ok (.imul, 1) := by decide +kernel
theorem dL_name_26 : decode cL_name 26 = .ok (.iconst 1, 1) := by decide +kernel
theorem dL_name_27 : decode cL_name 27 = .ok (.iadd, 1) := by decide +kernel
theorem dL_name_28 : decode cL_name 28 = .ok (.aload_n 0, 1) := by decide +kernel
theorem dL_name_29 : decode cL_name 29 = .ok (.iload_n 1, 1) := by decide +kernel
theorem dL_name_30 : decode cL_name 30 = .ok (.iconst 1, 1) := by decide +kernel
theorem dL_name_31 : decode cL_name 31 = .ok (.iadd, 1) := by decide +kernel
theorem dL_name_32 : decode cL_name 32 = .ok (.iload 4, 2) := by decide +kernel
theorem dL_name_34 : decode cL_name 34 = .ok (.iadd, 1) := by decide +kernel
theorem dL_name_35 : decode cL_name 35 = .ok (.iconst 2, 1) := by decide +kernel
theorem dL_name_36 : decode cL_name 36 = .ok (.invokestatic 101, 3) := by decide +kernel
theorem dL_name_39 : decode cL_name 39 = .ok (.iadd, 1) := by decide +kernel
theorem dL_name_40 : decode cL_name 40 = .ok (.istore_n 3, 1) := by decide +kernel
theorem dL_name_41 : decode cL_name 41 = .ok (.iinc 4 (-1), 3) := by decide +kernel
theorem dL_name_44 : decode cL_name 44 = .ok (.goto (-34), 3) := by decide +kernel
theorem dL_name_47 : decode cL_name 47 = .ok (.iload_n 3, 1) := by decide +kernel
theorem dL_name_48 : decode cL_name 48 = .ok (.ireturn, 1) := by decide +kernel
theorem dL_isUnder_0 : decode cL_isUnder 0 = .ok (.iload_n 0, 1) := by decide +kernel
theorem dL_isUnder_1 : decode cL_isUnder 1 = .ok (.iload_n 1, 1) := by decide +kernel
theorem dL_isUnder_2 : decode cL_isUnder 2 = .ok (.if_icmp .eq 19, 3) := by decide +kernel
theorem dL_isUnder_5 : decode cL_isUnder 5 = .ok (.iload_n 0, 1) := by decide +kernel
theorem dL_isUnder_6 : decode cL_isUnder 6 = .ok (.iload_n 1, 1) := by decide +kernel
theorem dL_isUnder_7 : decode cL_isUnder 7 = .ok (.if_icmp .le 18, 3) := by decide +kernel
theorem dL_isUnder_10 : decode cL_isUnder 10 = .ok (.iload_n 0, 1) := by decide +kernel
theorem dL_isUnder_11 : decode cL_isUnder 11 = .ok (.bipush 10, 2) := by decide +kernel
theorem dL_isUnder_13 : decode cL_isUnder 13 = .ok (.idiv, 1) := by decide +kernel
theorem dL_isUnder_14 : decode cL_isUnder 14 = .ok (.iload_n 1, 1) := by decide +kernel
theorem dL_isUnder_15 : decode cL_isUnder 15 = .ok (.invokestatic 105, 3) := by decide +kernel
theorem dL_isUnder_18 : decode cL_isUnder 18 = .ok (.ifCond .eq 7, 3) := by decide +kernel
theorem dL_isUnder_21 : decode cL_isUnder 21 = .ok (.iconst 1, 1) := by decide +kernel
theorem dL_isUnder_22 : decode cL_isUnder 22 = .ok (.goto 4, 3) := by decide +kernel
theorem dL_isUnder_25 : decode cL_isUnder 25 = .ok (.iconst 0, 1) := by decide +kernel
theorem dL_isUnder_26 : decode cL_isUnder 26 = .ok (.ireturn, 1) := by decide +kernel
theorem dL_makes_0 : decode cL_makes 0 = .ok (.bipush 10, 2) := by decide +kernel
theorem dL_makes_2 : decode cL_makes 2 = .ok (.bipush 14, 2) := by decide +kernel
theorem dL_makes_4 : decode cL_makes 4 = .ok (.aload_n 0, 1) := by decide +kernel
theorem dL_makes_5 : decode cL_makes 5 = .ok (.iconst 0, 1) := by decide +kernel
theorem dL_makes_6 : decode cL_makes 6 = .ok (.iaload, 1) := by decide +kernel
theorem dL_makes_7 : decode cL_makes 7 = .ok (.imul, 1) := by decide +kernel
theorem dL_makes_8 : decode cL_makes 8 = .ok (.iadd, 1) := by decide +kernel
theorem dL_makes_9 : decode cL_makes 9 = .ok (.istore 7, 2) := by decide +kernel
theorem dL_makes_11 : decode cL_makes 11 = .ok (.aload_n 0, 1) := by decide +kernel
theorem dL_makes_12 : decode cL_makes 12 = .ok (.iload 7, 2) := by decide +kernel
theorem dL_makes_14 : decode cL_makes 14 = .ok (.iload_n 1, 1) := by decide +kernel
theorem dL_makes_15 : decode cL_makes 15 = .ok (.iastore, 1) := by decide +kernel
theorem dL_makes_16 : decode cL_makes 16 = .ok (.aload_n 0, 1) := by decide +kernel
theorem dL_makes_17 : decode cL_makes 17 = .ok (.iload 7, 2) := by decide +kernel
theorem dL_makes_19 : decode cL_makes 19 = .ok (.iconst 1, 1) := by decide +kernel
theorem dL_makes_20 : decode cL_makes 20 = .ok (.iadd, 1) := by decide +kernel
theorem dL_makes_21 : decode cL_makes 21 = .ok (.iload_n 2, 1) := by decide +kernel
theorem dL_makes_22 : decode cL_makes 22 = .ok (.iastore, 1) := by decide +kernel
theorem dL_makes_23 : decode cL_makes 23 = .ok (.aload_n 0, 1) := by decide +kernel
theorem dL_makes_24 : decode cL_makes 24 = .ok (.iload 7, 2) := by decide +kernel
theorem dL_makes_26 : decode cL_makes 26 = .ok (.iconst 2, 1) := by decide +kernel
theorem dL_makes_27 : decode cL_makes 27 = .ok (.iadd, 1) := by decide +kernel
theorem dL_makes_28 : decode cL_makes 28 = .ok (.iload_n 3, 1) := by decide +kernel
theorem dL_makes_29 : decode cL_makes 29 = .ok (.iastore, 1) := by decide +kernel
theorem dL_makes_30 : decode cL_makes 30 = .ok (.aload_n 0, 1) := by decide +kernel
theorem dL_makes_31 : decode cL_makes 31 = .ok (.iload 7, 2) := by decide +kernel
theorem dL_makes_33 : decode cL_makes 33 = .ok (.iconst 3, 1) := by decide +kernel
theorem dL_makes_34 : decode cL_makes 34 = .ok (.iadd, 1) := by decide +kernel
theorem dL_makes_35 : decode cL_makes 35 = .ok (.iload 4, 2) := by decide +kernel
theorem dL_makes_37 : decode cL_makes 37 = .ok (.iastore, 1) := by decide +kernel
theorem dL_makes_38 : decode cL_makes 38 = .ok (.aload_n 0, 1) := by decide +kernel
theorem dL_makes_39 : decode cL_makes 39 = .ok (.iload 7, 2) := by decide +kernel
theorem dL_makes_41 : decode cL_makes 41 = .ok (.iconst 4, 1) := by decide +kernel
theorem dL_makes_42 : decode cL_makes 42 = .ok (.iadd, 1) := by decide +kernel
theorem dL_makes_43 : decode cL_makes 43 = .ok (.aload_n 0, 1) := by decide +kernel
theorem dL_makes_44 : decode cL_makes 44 = .ok (.iconst 2, 1) := by decide +kernel
theorem dL_makes_45 : decode cL_makes 45 = .ok (.iaload, 1) := by decide +kernel
theorem dL_makes_46 : decode cL_makes 46 = .ok (.iastore, 1) := by decide +kernel
theorem dL_makes_47 : decode cL_makes 47 = .ok (.aload_n 0, 1) := by decide +kernel
theorem dL_makes_48 : decode cL_makes 48 = .ok (.iload 7, 2) := by decide +kernel
theorem dL_makes_50 : decode cL_makes 50 = .ok (.iconst 5, 1) := by decide +kernel
theorem dL_makes_51 : decode cL_makes 51 = .ok (.iadd, 1) := by decide +kernel
theorem dL_makes_52 : decode cL_makes 52 = .ok (.aload_n 0, 1) := by decide +kernel
theorem dL_makes_53 : decode cL_makes 53 = .ok (.iconst 2, 1) := by decide +kernel
theorem dL_makes_54 : decode cL_makes 54 = .ok (.iaload, 1) := by decide +kernel
theorem dL_makes_55 : decode cL_makes 55 = .ok (.iload 5, 2) := by decide +kernel
theorem dL_makes_57 : decode cL_makes 57 = .ok (.iadd, 1) := by decide +kernel
theorem dL_makes_58 : decode cL_makes 58 = .ok (.iconst 1, 1) := by decide +kernel
theorem dL_makes_59 : decode cL_makes 59 = .ok (.isub, 1) := by decide +kernel
theorem dL_makes_60 : decode cL_makes 60 = .ok (.iastore, 1) := by decide +kernel
theorem dL_makes_61 : decode cL_makes 61 = .ok (.aload_n 0, 1) := by decide +kernel
theorem dL_makes_62 : decode cL_makes 62 = .ok (.iload 7, 2) := by decide +kernel
theorem dL_makes_64 : decode cL_makes 64 = .ok (.bipush 6, 2) := by decide +kernel
theorem dL_makes_66 : decode cL_makes 66 = .ok (.iadd, 1) := by decide +kernel
theorem dL_makes_67 : decode cL_makes 67 = .ok (.iload 6, 2) := by decide +kernel
theorem dL_makes_69 : decode cL_makes 69 = .ok (.ifCond .ge 7, 3) := by decide +kernel
theorem dL_makes_72 : decode cL_makes 72 = .ok (.iconst 0, 1) := by decide +kernel
theorem dL_makes_73 : decode cL_makes 73 = .ok (.goto 4, 3) := by decide +kernel
theorem dL_makes_76 : decode cL_makes 76 = .ok (.iconst 1, 1) := by decide +kernel
theorem dL_makes_77 : decode cL_makes 77 = .ok (.iastore, 1) := by decide +kernel
theorem dL_makes_78 : decode cL_makes 78 = .ok (.aload_n 0, 1) := by decide +kernel
theorem dL_makes_79 : decode cL_makes 79 = .ok (.iload 7, 2) := by decide +kernel
theorem dL_makes_81 : decode cL_makes 81 = .ok (.bipush 7, 2) := by decide +kernel
theorem dL_makes_83 : decode cL_makes 83 = .ok (.iadd, 1) := by decide +kernel
theorem dL_makes_84 : decode cL_makes 84 = .ok (.iload 6, 2) := by decide +kernel
theorem dL_makes_86 : decode cL_makes 86 = .ok (.iastore, 1) := by decide +kernel
theorem dL_makes_87 : decode cL_makes 87 = .ok (.aload_n 0, 1) := by decide +kernel
theorem dL_makes_88 : decode cL_makes 88 = .ok (.iload 7, 2) := by decide +kernel
theorem dL_makes_90 : decode cL_makes 90 = .ok (.bipush 10, 2) := by decide +kernel
theorem dL_makes_92 : decode cL_makes 92 = .ok (.iadd, 1) := by decide +kernel
theorem dL_makes_93 : decode cL_makes 93 = .ok (.iconst (-1), 1) := by decide +kernel
theorem dL_makes_94 : decode cL_makes 94 = .ok (.iastore, 1) := by decide +kernel
theorem dL_makes_95 : decode cL_makes 95 = .ok (.aload_n 0, 1) := by decide +kernel
theorem dL_makes_96 : decode cL_makes 96 = .ok (.iconst 0, 1) := by decide +kernel
theorem dL_makes_97 : decode cL_makes 97 = .ok (.dup2, 1) := by decide +kernel
theorem dL_makes_98 : decode cL_makes 98 = .ok (.iaload, 1) := by decide +kernel
theorem dL_makes_99 : decode cL_makes 99 = .ok (.iconst 1, 1) := by decide +kernel
theorem dL_makes_100 : decode cL_makes 100 = .ok (.iadd, 1) := by decide +kernel
theorem dL_makes_101 : decode cL_makes 101 = .ok (.iastore, 1) := by decide +kernel
theorem dL_makes_102 : decode cL_makes 102 = .ok (.aload_n 0, 1) := by decide +kernel
theorem dL_makes_103 : decode cL_makes 103 = .ok (.iconst 0, 1) := by decide +kernel
theorem dL_makes_104 : decode cL_makes 104 = .ok (.iaload, 1) := by decide +kernel
theorem dL_makes_105 : decode cL_makes 105 = .ok (.iconst 1, 1) := by decide +kernel
theorem dL_makes_106 : decode cL_makes 106 = .ok (.isub, 1) := by decide +kernel
theorem dL_makes_107 : decode cL_makes 107 = .ok (.ireturn, 1) := by decide +kernel
theorem dL_root_0 : decode cL_root 0 = .ok (.aload_n 0, 1) := by decide +kernel
theorem dL_root_1 : decode cL_root 1 = .ok (.iconst 1, 1) := by decide +kernel
theorem dL_root_2 : decode cL_root 2 = .ok (.dup2, 1) := by decide +kernel
theorem dL_root_3 : decode cL_root 3 = .ok (.iaload, 1) := by decide +kernel
theorem dL_root_4 : decode cL_root 4 = .ok (.iconst 1, 1) := by decide +kernel
theorem dL_root_5 : decode cL_root 5 = .ok (.iadd, 1) := by decide +kernel
theorem dL_root_6 : decode cL_root 6 = .ok (.iastore, 1) := by decide +kernel
theorem dL_root_7 : decode cL_root 7 = .ok (.aload_n 0, 1) := by decide +kernel
theorem dL_root_8 : decode cL_root 8 = .ok (.iload_n 1, 1) := by decide +kernel
theorem dL_root_9 : decode cL_root 9 = .ok (.aload_n 0, 1) := by decide +kernel
theorem dL_root_10 : decode cL_root 10 = .ok (.iconst 1, 1) := by decide +kernel
theorem dL_root_11 : decode cL_root 11 = .ok (.iaload, 1) := by decide +kernel
theorem dL_root_12 : decode cL_root 12 = .ok (.iload_n 1, 1) := by decide +kernel
theorem dL_root_13 : decode cL_root 13 = .ok (.aload_n 0, 1) := by decide +kernel
theorem dL_root_14 : decode cL_root 14 = .ok (.iconst 1, 1) := by decide +kernel
theorem dL_root_15 : decode cL_root 15 = .ok (.iaload, 1) := by decide +kernel
theorem dL_root_16 : decode cL_root 16 = .ok (.iload_n 2, 1) := by decide +kernel
theorem dL_root_17 : decode cL_root 17 = .ok (.iload_n 3, 1) := by decide +kernel
theorem dL_root_18 : decode cL_root 18 = .ok (.invokestatic 109, 3) := by decide +kernel
theorem dL_root_21 : decode cL_root 21 = .ok (.istore 4, 2) := by decide +kernel
theorem dL_root_23 : decode cL_root 23 = .ok (.aload_n 0, 1) := by decide +kernel
theorem dL_root_24 : decode cL_root 24 = .ok (.bipush 10, 2) := by decide +kernel
theorem dL_root_26 : decode cL_root 26 = .ok (.bipush 14, 2) := by decide +kernel
theorem dL_root_28 : decode cL_root 28 = .ok (.iload 4, 2) := by decide +kernel
theorem dL_root_30 : decode cL_root 30 = .ok (.imul, 1) := by decide +kernel
theorem dL_root_31 : decode cL_root 31 = .ok (.iadd, 1) := by decide +kernel
theorem dL_root_32 : decode cL_root 32 = .ok (.bipush 13, 2) := by decide +kernel
theorem dL_root_34 : decode cL_root 34 = .ok (.iadd, 1) := by decide +kernel
theorem dL_root_35 : decode cL_root 35 = .ok (.iconst 1, 1) := by decide +kernel
theorem dL_root_36 : decode cL_root 36 = .ok (.iastore, 1) := by decide +kernel
theorem dL_root_37 : decode cL_root 37 = .ok (.iload 4, 2) := by decide +kernel
theorem dL_root_39 : decode cL_root 39 = .ok (.ireturn, 1) := by decide +kernel
theorem dL_child_0 : decode cL_child 0 = .ok (.aload_n 0, 1) := by decide +kernel
theorem dL_child_1 : decode cL_child 1 = .ok (.iconst 1, 1) := by decide +kernel
theorem dL_child_2 : decode cL_child 2 = .ok (.dup2, 1) := by decide +kernel
theorem dL_child_3 : decode cL_child 3 = .ok (.iaload, 1) := by decide +kernel
theorem dL_child_4 : decode cL_child 4 = .ok (.iconst 1, 1) := by decide +kernel
theorem dL_child_5 : decode cL_child 5 = .ok (.iadd, 1) := by decide +kernel
theorem dL_child_6 : decode cL_child 6 = .ok (.iastore, 1) := by decide +kernel
theorem dL_child_7 : decode cL_child 7 = .ok (.aload_n 0, 1) := by decide +kernel
theorem dL_child_8 : decode cL_child 8 = .ok (.iload_n 2, 1) := by decide +kernel
theorem dL_child_9 : decode cL_child 9 = .ok (.aload_n 0, 1) := by decide +kernel
theorem dL_child_10 : decode cL_child 10 = .ok (.iconst 1, 1) := by decide +kernel
theorem dL_child_11 : decode cL_child 11 = .ok (.iaload, 1) := by decide +kernel
theorem dL_child_12 : decode cL_child 12 = .ok (.aload_n 0, 1) := by decide +kernel
theorem dL_child_13 : decode cL_child 13 = .ok (.iload_n 1, 1) := by decide +kernel
theorem dL_child_14 : decode cL_child 14 = .ok (.iaload, 1) := by decide +kernel
theorem dL_child_15 : decode cL_child 15 = .ok (.aload_n 0, 1) := by decide +kernel
theorem dL_child_16 : decode cL_child 16 = .ok (.iload_n 1, 1) := by decide +kernel
theorem dL_child_17 : decode cL_child 17 = .ok (.iconst 1, 1) := by decide +kernel
theorem dL_child_18 : decode cL_child 18 = .ok (.iadd, 1) := by decide +kernel
theorem dL_child_19 : decode cL_child 19 = .ok (.iaload, 1) := by decide +kernel
theorem dL_child_20 : decode cL_child 20 = .ok (.iload_n 3, 1) := by decide +kernel
theorem dL_child_21 : decode cL_child 21 = .ok (.iload 4, 2) := by decide +kernel
theorem dL_child_23 : decode cL_child 23 = .ok (.invokestatic 109, 3) := by decide +kernel
theorem dL_child_26 : decode cL_child 26 = .ok (.ireturn, 1) := by decide +kernel
theorem dL_many_0 : decode cL_many 0 = .ok (.iconst 0, 1) := by decide +kernel
theorem dL_many_1 : decode cL_many 1 = .ok (.istore_n 3, 1) := by decide +kernel
theorem dL_many_2 : decode cL_many 2 = .ok (.iconst 0, 1) := by decide +kernel
theorem dL_many_3 : decode cL_many 3 = .ok (.istore 4, 2) := by decide +kernel
theorem dL_many_5 : decode cL_many 5 = .ok (.iload 4, 2) := by decide +kernel
theorem dL_many_7 : decode cL_many 7 = .ok (.aload_n 0, 1) := by decide +kernel
theorem dL_many_8 : decode cL_many 8 = .ok (.iconst 0, 1) := by decide +kernel
theorem dL_many_9 : decode cL_many 9 = .ok (.iaload, 1) := by decide +kernel
theorem dL_many_10 : decode cL_many 10 = .ok (.if_icmp .ge 33, 3) := by decide +kernel
theorem dL_many_13 : decode cL_many 13 = .ok (.iload_n 3, 1) := by decide +kernel
theorem dL_many_14 : decode cL_many 14 = .ok (.aload_n 0, 1) := by decide +kernel
theorem dL_many_15 : decode cL_many 15 = .ok (.bipush 10, 2) := by decide +kernel
theorem dL_many_17 : decode cL_many 17 = .ok (.bipush 14, 2) := by decide +kernel
theorem dL_many_19 : decode cL_many 19 = .ok (.iload 4, 2) := by decide +kernel
theorem dL_many_21 : decode cL_many 21 = .ok (.imul, 1) := by decide +kernel
theorem dL_many_22 : decode cL_many 22 = .ok (.iadd, 1) := by decide +kernel
theorem dL_many_23 : decode cL_many 23 = .ok (.iload_n 1, 1) := by decide +kernel
theorem dL_many_24 : decode cL_many 24 = .ok (.iadd, 1) := by decide +kernel
theorem dL_many_25 : decode cL_many 25 = .ok (.iaload, 1) := by decide +kernel
theorem dL_many_26 : decode cL_many 26 = .ok (.iload_n 2, 1) := by decide +kernel
theorem dL_many_27 : decode cL_many 27 = .ok (.if_icmp .ne 7, 3) := by decide +kernel
theorem dL_many_30 : decode cL_many 30 = .ok (.iconst 1, 1) := by decide +kernel
theorem dL_many_31 : decode cL_many 31 = .ok (.goto 4, 3) := by decide +kernel
theorem dL_many_34 : decode cL_many 34 = .ok (.iconst 0, 1) := by decide +kernel
theorem dL_many_35 : decode cL_many 35 = .ok (.iadd, 1) := by decide +kernel
theorem dL_many_36 : decode cL_many 36 = .ok (.istore_n 3, 1) := by decide +kernel
theorem dL_many_37 : decode cL_many 37 = .ok (.iinc 4 1, 3) := by decide +kernel
theorem dL_many_40 : decode cL_many 40 = .ok (.goto (-35), 3) := by decide +kernel
theorem dL_many_43 : decode cL_many 43 = .ok (.iload_n 3, 1) := by decide +kernel
theorem dL_many_44 : decode cL_many 44 = .ok (.ireturn, 1) := by decide +kernel
theorem dL_hasIssued_0 : decode cL_hasIssued 0 = .ok (.aload_n 0, 1) := by decide +kernel
theorem dL_hasIssued_1 : decode cL_hasIssued 1 = .ok (.iconst 3, 1) := by decide +kernel
theorem dL_hasIssued_2 : decode cL_hasIssued 2 = .ok (.iload_n 1, 1) := by decide +kernel
theorem dL_hasIssued_3 : decode cL_hasIssued 3 = .ok (.invokestatic 113, 3) := by decide +kernel
theorem dL_hasIssued_6 : decode cL_hasIssued 6 = .ok (.istore_n 2, 1) := by decide +kernel
theorem dL_hasIssued_7 : decode cL_hasIssued 7 = .ok (.iconst 0, 1) := by decide +kernel
theorem dL_hasIssued_8 : decode cL_hasIssued 8 = .ok (.istore_n 3, 1) := by decide +kernel
theorem dL_hasIssued_9 : decode cL_hasIssued 9 = .ok (.iload_n 3, 1) := by decide +kernel
theorem dL_hasIssued_10 : decode cL_hasIssued 10 = .ok (.aload_n 0, 1) := by decide +kernel
theorem dL_hasIssued_11 : decode cL_hasIssued 11 = .ok (.iconst 0, 1) := by decide +kernel
theorem dL_hasIssued_12 : decode cL_hasIssued 12 = .ok (.iaload, 1) := by decide +kernel
theorem dL_hasIssued_13 : decode cL_hasIssued 13 = .ok (.if_icmp .ge 45, 3) := by decide +kernel
theorem dL_hasIssued_16 : decode cL_hasIssued 16 = .ok (.iload_n 2, 1) := by decide +kernel
theorem dL_hasIssued_17 : decode cL_hasIssued 17 = .ok (.aload_n 0, 1) := by decide +kernel
theorem dL_hasIssued_18 : decode cL_hasIssued 18 = .ok (.bipush 10, 2) := by decide +kernel
theorem dL_hasIssued_20 : decode cL_hasIssued 20 = .ok (.bipush 14, 2) := by decide +kernel
theorem dL_hasIssued_22 : decode cL_hasIssued 22 = .ok (.iload_n 3, 1) := by decide +kernel
theorem dL_hasIssued_23 : decode cL_hasIssued 23 = .ok (.imul, 1) := by decide +kernel
theorem dL_hasIssued_24 : decode cL_hasIssued 24 = .ok (.iadd, 1) := by decide +kernel
theorem dL_hasIssued_25 : decode cL_hasIssued 25 = .ok (.iconst 3, 1) := by decide +kernel
theorem dL_hasIssued_26 : decode cL_hasIssued 26 = .ok (.iadd, 1) := by decide +kernel
theorem dL_hasIssued_27 : decode cL_hasIssued 27 = .ok (.iaload, 1) := by decide +kernel
theorem dL_hasIssued_28 : decode cL_hasIssued 28 = .ok (.iload_n 1, 1) := by decide +kernel
theorem dL_hasIssued_29 : decode cL_hasIssued 29 = .ok (.if_icmp .ne 20, 3) := by decide +kernel
theorem dL_hasIssued_32 : decode cL_hasIssued 32 = .ok (.aload_n 0, 1) := by decide +kernel
theorem dL_hasIssued_33 : decode cL_hasIssued 33 = .ok (.bipush 23, 2) := by decide +kernel
theorem dL_hasIssued_35 : decode cL_hasIssued 35 = .ok (.bipush 14, 2) := by decide +kernel
theorem dL_hasIssued_37 : decode cL_hasIssued 37 = .ok (.iload_n 3, 1) := by decide +kernel
theorem dL_hasIssued_38 : decode cL_hasIssued 38 = .ok (.imul, 1) := by decide +kernel
theorem dL_hasIssued_39 : decode cL_hasIssued 39 = .ok (.iadd, 1) := by decide +kernel
theorem dL_hasIssued_40 : decode cL_hasIssued 40 = .ok (.iaload, 1) := by decide +kernel
theorem dL_hasIssued_41 : decode cL_hasIssued 41 = .ok (.iconst 1, 1) := by decide +kernel
theorem dL_hasIssued_42 : decode cL_hasIssued 42 = .ok (.if_icmp .ne 7, 3) := by decide +kernel
theorem dL_hasIssued_45 : decode cL_hasIssued 45 = .ok (.iconst 1, 1) := by decide +kernel
theorem dL_hasIssued_46 : decode cL_hasIssued 46 = .ok (.goto 4, 3) := by decide +kernel
theorem dL_hasIssued_49 : decode cL_hasIssued 49 = .ok (.iconst 0, 1) := by decide +kernel
theorem dL_hasIssued_50 : decode cL_hasIssued 50 = .ok (.isub, 1) := by decide +kernel
theorem dL_hasIssued_51 : decode cL_hasIssued 51 = .ok (.istore_n 2, 1) := by decide +kernel
theorem dL_hasIssued_52 : decode cL_hasIssued 52 = .ok (.iinc 3 1, 3) := by decide +kernel
theorem dL_hasIssued_55 : decode cL_hasIssued 55 = .ok (.goto (-46), 3) := by decide +kernel
theorem dL_hasIssued_58 : decode cL_hasIssued 58 = .ok (.iload_n 2, 1) := by decide +kernel
theorem dL_hasIssued_59 : decode cL_hasIssued 59 = .ok (.ifCond .le 7, 3) := by decide +kernel
theorem dL_hasIssued_62 : decode cL_hasIssued 62 = .ok (.iconst 1, 1) := by decide +kernel
theorem dL_hasIssued_63 : decode cL_hasIssued 63 = .ok (.goto 4, 3) := by decide +kernel
theorem dL_hasIssued_66 : decode cL_hasIssued 66 = .ok (.iconst 0, 1) := by decide +kernel
theorem dL_hasIssued_67 : decode cL_hasIssued 67 = .ok (.ireturn, 1) := by decide +kernel
theorem dL_pending_0 : decode cL_pending 0 = .ok (.iconst 0, 1) := by decide +kernel
theorem dL_pending_1 : decode cL_pending 1 = .ok (.istore_n 2, 1) := by decide +kernel
theorem dL_pending_2 : decode cL_pending 2 = .ok (.iconst 0, 1) := by decide +kernel
theorem dL_pending_3 : decode cL_pending 3 = .ok (.istore_n 3, 1) := by decide +kernel
theorem dL_pending_4 : decode cL_pending 4 = .ok (.iload_n 3, 1) := by decide +kernel
theorem dL_pending_5 : decode cL_pending 5 = .ok (.aload_n 0, 1) := by decide +kernel
theorem dL_pending_6 : decode cL_pending 6 = .ok (.iconst 0, 1) := by decide +kernel
theorem dL_pending_7 : decode cL_pending 7 = .ok (.iaload, 1) := by decide +kernel
theorem dL_pending_8 : decode cL_pending 8 = .ok (.if_icmp .ge 57, 3) := by decide +kernel
theorem dL_pending_11 : decode cL_pending 11 = .ok (.bipush 10, 2) := by decide +kernel
theorem dL_pending_13 : decode cL_pending 13 = .ok (.bipush 14, 2) := by decide +kernel
theorem dL_pending_15 : decode cL_pending 15 = .ok (.iload_n 3, 1) := by decide +kernel
theorem dL_pending_16 : decode cL_pending 16 = .ok (.imul, 1) := by decide +kernel
theorem dL_pending_17 : decode cL_pending 17 = .ok (.iadd, 1) := by decide +kernel
theorem dL_pending_18 : decode cL_pending 18 = .ok (.istore 4, 2) := by decide +kernel
theorem dL_pending_20 : decode cL_pending 20 = .ok (.iload_n 2, 1) := by decide +kernel
theorem dL_pending_21 : decode cL_pending 21 = .ok (.aload_n 0, 1) := by decide +kernel
theorem dL_pending_22 : decode cL_pending 22 = .ok (.iload 4, 2) := by decide +kernel
theorem dL_pending_24 : decode cL_pending 24 = .ok (.iconst 3, 1) := by decide +kernel
theorem dL_pending_25 : decode cL_pending 25 = .ok (.iadd, 1) := by decide +kernel
theorem dL_pending_26 : decode cL_pending 26 = .ok (.iaload, 1) := by decide +kernel
theorem dL_pending_27 : decode cL_pending 27 = .ok (.iload_n 1, 1) := by decide +kernel
theorem dL_pending_28 : decode cL_pending 28 = .ok (.if_icmp .ne 28, 3) := by decide +kernel
theorem dL_pending_31 : decode cL_pending 31 = .ok (.aload_n 0, 1) := by decide +kernel
theorem dL_pending_32 : decode cL_pending 32 = .ok (.iload 4, 2) := by decide +kernel
theorem dL_pending_34 : decode cL_pending 34 = .ok (.bipush 11, 2) := by decide +kernel
theorem dL_pending_36 : decode cL_pending 36 = .ok (.iadd, 1) := by decide +kernel
theorem dL_pending_37 : decode cL_pending 37 = .ok (.iaload, 1) := by decide +kernel
theorem dL_pending_38 : decode cL_pending 38 = .ok (.iconst 1, 1) := by decide +kernel
theorem dL_pending_39 : decode cL_pending 39 = .ok (.if_icmp .ne 17, 3) := by decide +kernel
theorem dL_pending_42 : decode cL_pending 42 = .ok (.aload_n 0, 1) := by decide +kernel
theorem dL_pending_43 : decode cL_pending 43 = .ok (.iload 4, 2) := by decide +kernel
theorem dL_pending_45 : decode cL_pending 45 = .ok (.bipush 10, 2) := by decide +kernel
theorem dL_pending_47 : decode cL_pending 47 = .ok (.iadd, 1) := by decide +kernel
theorem dL_pending_48 : decode cL_pending 48 = .ok (.iaload, 1) := by decide +kernel
theorem dL_pending_49 : decode cL_pending 49 = .ok (.ifCond .ge 7, 3) := by decide +kernel
theorem dL_pending_52 : decode cL_pending 52 = .ok (.iconst 1, 1) := by decide +kernel
theorem dL_pending_53 : decode cL_pending 53 = .ok (.goto 4, 3) := by decide +kernel
theorem dL_pending_56 : decode cL_pending 56 = .ok (.iconst 0, 1) := by decide +kernel
theorem dL_pending_57 : decode cL_pending 57 = .ok (.iadd, 1) := by decide +kernel
theorem dL_pending_58 : decode cL_pending 58 = .ok (.istore_n 2, 1) := by decide +kernel
theorem dL_pending_59 : decode cL_pending 59 = .ok (.iinc 3 1, 3) := by decide +kernel
theorem dL_pending_62 : decode cL_pending 62 = .ok (.goto (-58), 3) := by decide +kernel
theorem dL_pending_65 : decode cL_pending 65 = .ok (.iload_n 2, 1) := by decide +kernel
theorem dL_pending_66 : decode cL_pending 66 = .ok (.ireturn, 1) := by decide +kernel
theorem dL_isOff_0 : decode cL_isOff 0 = .ok (.aload_n 0, 1) := by decide +kernel
theorem dL_isOff_1 : decode cL_isOff 1 = .ok (.bipush 20, 2) := by decide +kernel
theorem dL_isOff_3 : decode cL_isOff 3 = .ok (.bipush 14, 2) := by decide +kernel
theorem dL_isOff_5 : decode cL_isOff 5 = .ok (.iload_n 1, 1) := by decide +kernel
theorem dL_isOff_6 : decode cL_isOff 6 = .ok (.imul, 1) := by decide +kernel
theorem dL_isOff_7 : decode cL_isOff 7 = .ok (.iadd, 1) := by decide +kernel
theorem dL_isOff_8 : decode cL_isOff 8 = .ok (.iaload, 1) := by decide +kernel
theorem dL_isOff_9 : decode cL_isOff 9 = .ok (.istore_n 3, 1) := by decide +kernel
theorem dL_isOff_10 : decode cL_isOff 10 = .ok (.iload_n 3, 1) := by decide +kernel
theorem dL_isOff_11 : decode cL_isOff 11 = .ok (.ifCond .lt 12, 3) := by decide +kernel
theorem dL_isOff_14 : decode cL_isOff 14 = .ok (.iload_n 3, 1) := by decide +kernel
theorem dL_isOff_15 : decode cL_isOff 15 = .ok (.iload_n 2, 1) := by decide +kernel
theorem dL_isOff_16 : decode cL_isOff 16 = .ok (.if_icmp .gt 7, 3) := by decide +kernel
theorem dL_isOff_19 : decode cL_isOff 19 = .ok (.iconst 1, 1) := by decide +kernel
theorem dL_isOff_20 : decode cL_isOff 20 = .ok (.goto 4, 3) := by decide +kernel
theorem dL_isOff_23 : decode cL_isOff 23 = .ok (.iconst 0, 1) := by decide +kernel
theorem dL_isOff_24 : decode cL_isOff 24 = .ok (.ireturn, 1) := by decide +kernel
theorem dL_isValid_0 : decode cL_isValid 0 = .ok (.aload_n 0, 1) := by decide +kernel
theorem dL_isValid_1 : decode cL_isValid 1 = .ok (.bipush 14, 2) := by decide +kernel
theorem dL_isValid_3 : decode cL_isValid 3 = .ok (.bipush 14, 2) := by decide +kernel
theorem dL_isValid_5 : decode cL_isValid 5 = .ok (.iload_n 1, 1) := by decide +kernel
theorem dL_isValid_6 : decode cL_isValid 6 = .ok (.imul, 1) := by decide +kernel
theorem dL_isValid_7 : decode cL_isValid 7 = .ok (.iadd, 1) := by decide +kernel
theorem dL_isValid_8 : decode cL_isValid 8 = .ok (.iaload, 1) := by decide +kernel
theorem dL_isValid_9 : decode cL_isValid 9 = .ok (.iload_n 2, 1) := by decide +kernel
theorem dL_isValid_10 : decode cL_isValid 10 = .ok (.if_icmp .gt 20, 3) := by decide +kernel
theorem dL_isValid_13 : decode cL_isValid 13 = .ok (.iload_n 2, 1) := by decide +kernel
theorem dL_isValid_14 : decode cL_isValid 14 = .ok (.aload_n 0, 1) := by decide +kernel
theorem dL_isValid_15 : decode cL_isValid 15 = .ok (.bipush 15, 2) := by decide +kernel
theorem dL_isValid_17 : decode cL_isValid 17 = .ok (.bipush 14, 2) := by decide +kernel
theorem dL_isValid_19 : decode cL_isValid 19 = .ok (.iload_n 1, 1) := by decide +kernel
theorem dL_isValid_20 : decode cL_isValid 20 = .ok (.imul, 1) := by decide +kernel
theorem dL_isValid_21 : decode cL_isValid 21 = .ok (.iadd, 1) := by decide +kernel
theorem dL_isValid_22 : decode cL_isValid 22 = .ok (.iaload, 1) := by decide +kernel
theorem dL_isValid_23 : decode cL_isValid 23 = .ok (.if_icmp .gt 7, 3) := by decide +kernel
theorem dL_isValid_26 : decode cL_isValid 26 = .ok (.iconst 1, 1) := by decide +kernel
theorem dL_isValid_27 : decode cL_isValid 27 = .ok (.goto 4, 3) := by decide +kernel
theorem dL_isValid_30 : decode cL_isValid 30 = .ok (.iconst 0, 1) := by decide +kernel
theorem dL_isValid_31 : decode cL_isValid 31 = .ok (.ireturn, 1) := by decide +kernel
theorem dL_isNext_0 : decode cL_isNext 0 = .ok (.iload_n 1, 1) := by decide +kernel
theorem dL_isNext_1 : decode cL_isNext 1 = .ok (.iload_n 2, 1) := by decide +kernel
theorem dL_isNext_2 : decode cL_isNext 2 = .ok (.if_icmp .eq 49, 3) := by decide +kernel
theorem dL_isNext_5 : decode cL_isNext 5 = .ok (.aload_n 0, 1) := by decide +kernel
theorem dL_isNext_6 : decode cL_isNext 6 = .ok (.bipush 10, 2) := by decide +kernel
theorem dL_isNext_8 : decode cL_isNext 8 = .ok (.bipush 14, 2) := by decide +kernel
theorem dL_isNext_10 : decode cL_isNext 10 = .ok (.iload_n 2, 1) := by decide +kernel
theorem dL_isNext_11 : decode cL_isNext 11 = .ok (.imul, 1) := by decide +kernel
theorem dL_isNext_12 : decode cL_isNext 12 = .ok (.iadd, 1) := by decide +kernel
theorem dL_isNext_13 : decode cL_isNext 13 = .ok (.iaload, 1) := by decide +kernel
theorem dL_isNext_14 : decode cL_isNext 14 = .ok (.aload_n 0, 1) := by decide +kernel
theorem dL_isNext_15 : decode cL_isNext 15 = .ok (.bipush 12, 2) := by decide +kernel
theorem dL_isNext_17 : decode cL_isNext 17 = .ok (.bipush 14, 2) := by decide +kernel
theorem dL_isNext_19 : decode cL_isNext 19 = .ok (.iload_n 1, 1) := by decide +kernel
theorem dL_isNext_20 : decode cL_isNext 20 = .ok (.imul, 1) := by decide +kernel
theorem dL_isNext_21 : decode cL_isNext 21 = .ok (.iadd, 1) := by decide +kernel
theorem dL_isNext_22 : decode cL_isNext 22 = .ok (.iaload, 1) := by decide +kernel
theorem dL_isNext_23 : decode cL_isNext 23 = .ok (.if_icmp .ne 28, 3) := by decide +kernel
theorem dL_isNext_26 : decode cL_isNext 26 = .ok (.aload_n 0, 1) := by decide +kernel
theorem dL_isNext_27 : decode cL_isNext 27 = .ok (.bipush 11, 2) := by decide +kernel
theorem dL_isNext_29 : decode cL_isNext 29 = .ok (.bipush 14, 2) := by decide +kernel
theorem dL_isNext_31 : decode cL_isNext 31 = .ok (.iload_n 2, 1) := by decide +kernel
theorem dL_isNext_32 : decode cL_isNext 32 = .ok (.imul, 1) := by decide +kernel
theorem dL_isNext_33 : decode cL_isNext 33 = .ok (.iadd, 1) := by decide +kernel
theorem dL_isNext_34 : decode cL_isNext 34 = .ok (.iaload, 1) := by decide +kernel
theorem dL_isNext_35 : decode cL_isNext 35 = .ok (.aload_n 0, 1) := by decide +kernel
theorem dL_isNext_36 : decode cL_isNext 36 = .ok (.bipush 13, 2) := by decide +kernel
theorem dL_isNext_38 : decode cL_isNext 38 = .ok (.bipush 14, 2) := by decide +kernel
theorem dL_isNext_40 : decode cL_isNext 40 = .ok (.iload_n 1, 1) := by decide +kernel
theorem dL_isNext_41 : decode cL_isNext 41 = .ok (.imul, 1) := by decide +kernel
theorem dL_isNext_42 : decode cL_isNext 42 = .ok (.iadd, 1) := by decide +kernel
theorem dL_isNext_43 : decode cL_isNext 43 = .ok (.iaload, 1) := by decide +kernel
theorem dL_isNext_44 : decode cL_isNext 44 = .ok (.if_icmp .ne 7, 3) := by decide +kernel
theorem dL_isNext_47 : decode cL_isNext 47 = .ok (.iconst 1, 1) := by decide +kernel
theorem dL_isNext_48 : decode cL_isNext 48 = .ok (.goto 4, 3) := by decide +kernel
theorem dL_isNext_51 : decode cL_isNext 51 = .ok (.iconst 0, 1) := by decide +kernel
theorem dL_isNext_52 : decode cL_isNext 52 = .ok (.ireturn, 1) := by decide +kernel
theorem dL_ranked_0 : decode cL_ranked 0 = .ok (.iload_n 2, 1) := by decide +kernel
theorem dL_ranked_1 : decode cL_ranked 1 = .ok (.istore_n 3, 1) := by decide +kernel
theorem dL_ranked_2 : decode cL_ranked 2 = .ok (.iconst 0, 1) := by decide +kernel
theorem dL_ranked_3 : decode cL_ranked 3 = .ok (.istore 4, 2) := by decide +kernel
theorem dL_ranked_5 : decode cL_ranked 5 = .ok (.iload 4, 2) := by decide +kernel
theorem dL_ranked_7 : decode cL_ranked 7 = .ok (.aload_n 0, 1) := by decide +kernel
theorem dL_ranked_8 : decode cL_ranked 8 = .ok (.iconst 0, 1) := by decide +kernel
theorem dL_ranked_9 : decode cL_ranked 9 = .ok (.iaload, 1) := by decide +kernel
theorem dL_ranked_10 : decode cL_ranked 10 = .ok (.if_icmp .ge 34, 3) := by decide +kernel
theorem dL_ranked_13 : decode cL_ranked 13 = .ok (.iload_n 3, 1) := by decide +kernel
theorem dL_ranked_14 : decode cL_ranked 14 = .ok (.aload_n 0, 1) := by decide +kernel
theorem dL_ranked_15 : decode cL_ranked 15 = .ok (.iload_n 1, 1) := by decide +kernel
theorem dL_ranked_16 : decode cL_ranked 16 = .ok (.iload 4, 2) := by decide +kernel
theorem dL_ranked_18 : decode cL_ranked 18 = .ok (.invokestatic 116, 3) := by decide +kernel
theorem dL_ranked_21 : decode cL_ranked 21 = .ok (.ifCond .eq 7, 3) := by decide +kernel
theorem dL_ranked_24 : decode cL_ranked 24 = .ok (.iconst 1, 1) := by decide +kernel
theorem dL_ranked_25 : decode cL_ranked 25 = .ok (.goto 4, 3) := by decide +kernel
theorem dL_ranked_28 : decode cL_ranked 28 = .ok (.iconst 0, 1) := by decide +kernel
theorem dL_ranked_29 : decode cL_ranked 29 = .ok (.isub, 1) := by decide +kernel
theorem dL_ranked_30 : decode cL_ranked 30 = .ok (.istore_n 3, 1) := by decide +kernel
theorem dL_ranked_31 : decode cL_ranked 31 = .ok (.iload_n 3, 1) := by decide +kernel
theorem dL_ranked_32 : decode cL_ranked 32 = .ok (.ifCond .ge 6, 3) := by decide +kernel
theorem dL_ranked_35 : decode cL_ranked 35 = .ok (.iload 4, 2) := by decide +kernel
theorem dL_ranked_37 : decode cL_ranked 37 = .ok (.ireturn, 1) := by decide +kernel
theorem dL_ranked_38 : decode cL_ranked 38 = .ok (.iinc 4 1, 3) := by decide +kernel
theorem dL_ranked_41 : decode cL_ranked 41 = .ok (.goto (-36), 3) := by decide +kernel
theorem dL_ranked_44 : decode cL_ranked 44 = .ok (.iconst (-1), 1) := by decide +kernel
theorem dL_ranked_45 : decode cL_ranked 45 = .ok (.ireturn, 1) := by decide +kernel
theorem dL_fits_0 : decode cL_fits 0 = .ok (.bipush 10, 2) := by decide +kernel
theorem dL_fits_2 : decode cL_fits 2 = .ok (.bipush 14, 2) := by decide +kernel
theorem dL_fits_4 : decode cL_fits 4 = .ok (.iload_n 3, 1) := by decide +kernel
theorem dL_fits_5 : decode cL_fits 5 = .ok (.imul, 1) := by decide +kernel
theorem dL_fits_6 : decode cL_fits 6 = .ok (.iadd, 1) := by decide +kernel
theorem dL_fits_7 : decode cL_fits 7 = .ok (.istore 4, 2) := by decide +kernel
theorem dL_fits_9 : decode cL_fits 9 = .ok (.iconst 0, 1) := by decide +kernel
theorem dL_fits_10 : decode cL_fits 10 = .ok (.istore 5, 2) := by decide +kernel
theorem dL_fits_12 : decode cL_fits 12 = .ok (.iload 5, 2) := by decide +kernel
theorem dL_fits_14 : decode cL_fits 14 = .ok (.iload_n 2, 1) := by decide +kernel
theorem dL_fits_15 : decode cL_fits 15 = .ok (.if_icmp .ge 75, 3) := by decide +kernel
theorem dL_fits_18 : decode cL_fits 18 = .ok (.aload_n 0, 1) := by decide +kernel
theorem dL_fits_19 : decode cL_fits 19 = .ok (.bipush 10, 2) := by decide +kernel
theorem dL_fits_21 : decode cL_fits 21 = .ok (.bipush 14, 2) := by decide +kernel
theorem dL_fits_23 : decode cL_fits 23 = .ok (.aload_n 1, 1) := by decide +kernel
theorem dL_fits_24 : decode cL_fits 24 = .ok (.iload 5, 2) := by decide +kernel
theorem dL_fits_26 : decode cL_fits 26 = .ok (.iaload, 1) := by decide +kernel
theorem dL_fits_27 : decode cL_fits 27 = .ok (.imul, 1) := by decide +kernel
theorem dL_fits_28 : decode cL_fits 28 = .ok (.iadd, 1) := by decide +kernel
theorem dL_fits_29 : decode cL_fits 29 = .ok (.iaload, 1) := by decide +kernel
theorem dL_fits_30 : decode cL_fits 30 = .ok (.istore 6, 2) := by decide +kernel
theorem dL_fits_32 : decode cL_fits 32 = .ok (.aload_n 0, 1) := by decide +kernel
theorem dL_fits_33 : decode cL_fits 33 = .ok (.iload 4, 2) := by decide +kernel
theorem dL_fits_35 : decode cL_fits 35 = .ok (.bipush 8, 2) := by decide +kernel
theorem dL_fits_37 : decode cL_fits 37 = .ok (.iadd, 1) := by decide +kernel
theorem dL_fits_38 : decode cL_fits 38 = .ok (.iaload, 1) := by decide +kernel
theorem dL_fits_39 : decode cL_fits 39 = .ok (.ifCond .le 18, 3) := by decide +kernel
theorem dL_fits_42 : decode cL_fits 42 = .ok (.iload 6, 2) := by decide +kernel
theorem dL_fits_44 : decode cL_fits 44 = .ok (.aload_n 0, 1) := by decide +kernel
theorem dL_fits_45 : decode cL_fits 45 = .ok (.iload 4, 2) := by decide +kernel
theorem dL_fits_47 : decode cL_fits 47 = .ok (.bipush 8, 2) := by decide +kernel
theorem dL_fits_49 : decode cL_fits 49 = .ok (.iadd, 1) := by decide +kernel
theorem dL_fits_50 : decode cL_fits 50 = .ok (.iaload, 1) := by decide +kernel
theorem dL_fits_51 : decode cL_fits 51 = .ok (.invokestatic 105, 3) := by decide +kernel
theorem dL_fits_54 : decode cL_fits 54 = .ok (.ifCond .eq 28, 3) := by decide +kernel
theorem dL_fits_57 : decode cL_fits 57 = .ok (.aload_n 0, 1) := by decide +kernel
theorem dL_fits_58 : decode cL_fits 58 = .ok (.iload 4, 2) := by decide +kernel
theorem dL_fits_60 : decode cL_fits 60 = .ok (.bipush 9, 2) := by decide +kernel
theorem dL_fits_62 : decode cL_fits 62 = .ok (.iadd, 1) := by decide +kernel
theorem dL_fits_63 : decode cL_fits 63 = .ok (.iaload, 1) := by decide +kernel
theorem dL_fits_64 : decode cL_fits 64 = .ok (.ifCond .le 20, 3) := by decide +kernel
theorem dL_fits_67 : decode cL_fits 67 = .ok (.iload 6, 2) := by decide +kernel
theorem dL_fits_69 : decode cL_fits 69 = .ok (.aload_n 0, 1) := by decide +kernel
theorem dL_fits_70 : decode cL_fits 70 = .ok (.iload 4, 2) := by decide +kernel
theorem dL_fits_72 : decode cL_fits 72 = .ok (.bipush 9, 2) := by decide +kernel
theorem dL_fits_74 : decode cL_fits 74 = .ok (.iadd, 1) := by decide +kernel
theorem dL_fits_75 : decode cL_fits 75 = .ok (.iaload, 1) := by decide +kernel
theorem dL_fits_76 : decode cL_fits 76 = .ok (.invokestatic 105, 3) := by decide +kernel
theorem dL_fits_79 : decode cL_fits 79 = .ok (.ifCond .eq 5, 3) := by decide +kernel
theorem dL_fits_82 : decode cL_fits 82 = .ok (.iconst 0, 1) := by decide +kernel
theorem dL_fits_83 : decode cL_fits 83 = .ok (.ireturn, 1) := by decide +kernel
theorem dL_fits_84 : decode cL_fits 84 = .ok (.iinc 5 1, 3) := by decide +kernel
theorem dL_fits_87 : decode cL_fits 87 = .ok (.goto (-75), 3) := by decide +kernel
theorem dL_fits_90 : decode cL_fits 90 = .ok (.iconst 1, 1) := by decide +kernel
theorem dL_fits_91 : decode cL_fits 91 = .ok (.ireturn, 1) := by decide +kernel
theorem dL_why_0 : decode cL_why 0 = .ok (.iconst 0, 1) := by decide +kernel
theorem dL_why_1 : decode cL_why 1 = .ok (.istore 5, 2) := by decide +kernel
theorem dL_why_3 : decode cL_why 3 = .ok (.iconst 0, 1) := by decide +kernel
theorem dL_why_4 : decode cL_why 4 = .ok (.istore 6, 2) := by decide +kernel
theorem dL_why_6 : decode cL_why 6 = .ok (.iload 6, 2) := by decide +kernel
theorem dL_why_8 : decode cL_why 8 = .ok (.iload_n 2, 1) := by decide +kernel
theorem dL_why_9 : decode cL_why 9 = .ok (.if_icmp .ge 27, 3) := by decide +kernel
theorem dL_why_12 : decode cL_why 12 = .ok (.iload 5, 2) := by decide +kernel
theorem dL_why_14 : decode cL_why 14 = .ok (.aload_n 1, 1) := by decide +kernel
theorem dL_why_15 : decode cL_why 15 = .ok (.iload 6, 2) := by decide +kernel
theorem dL_why_17 : decode cL_why 17 = .ok (.iaload, 1) := by decide +kernel
theorem dL_why_18 : decode cL_why 18 = .ok (.iload_n 3, 1) := by decide +kernel
theorem dL_why_19 : decode cL_why 19 = .ok (.if_icmp .ne 7, 3) := by decide +kernel
theorem dL_why_22 : decode cL_why 22 = .ok (.iconst 1, 1) := by decide +kernel
theorem dL_why_23 : decode cL_why 23 = .ok (.goto 4, 3) := by decide +kernel
theorem dL_why_26 : decode cL_why 26 = .ok (.iconst 0, 1) := by decide +kernel
theorem dL_why_27 : decode cL_why 27 = .ok (.ior, 1) := by decide +kernel
theorem dL_why_28 : decode cL_why 28 = .ok (.istore 5, 2) := by decide +kernel
theorem dL_why_30 : decode cL_why 30 = .ok (.iinc 6 1, 3) := by decide +kernel
theorem dL_why_33 : decode cL_why 33 = .ok (.goto (-27), 3) := by decide +kernel
theorem dL_why_36 : decode cL_why 36 = .ok (.bipush 10, 2) := by decide +kernel
theorem dL_why_38 : decode cL_why 38 = .ok (.bipush 14, 2) := by decide +kernel
theorem dL_why_40 : decode cL_why 40 = .ok (.iload_n 3, 1) := by decide +kernel
theorem dL_why_41 : decode cL_why 41 = .ok (.imul, 1) := by decide +kernel
theorem dL_why_42 : decode cL_why 42 = .ok (.iadd, 1) := by decide +kernel
theorem dL_why_43 : decode cL_why 43 = .ok (.istore 6, 2) := by decide +kernel
theorem dL_why_45 : decode cL_why 45 = .ok (.iload 5, 2) := by decide +kernel
theorem dL_why_47 : decode cL_why 47 = .ok (.ifCond .eq 8, 3) := by decide +kernel
theorem dL_why_50 : decode cL_why 50 = .ok (.bipush 120, 2) := by decide +kernel
theorem dL_why_52 : decode cL_why 52 = .ok (.goto 83, 3) := by decide +kernel
theorem dL_why_55 : decode cL_why 55 = .ok (.aload_n 0, 1) := by decide +kernel
theorem dL_why_56 : decode cL_why 56 = .ok (.iload_n 3, 1) := by decide +kernel
theorem dL_why_57 : decode cL_why 57 = .ok (.iload 4, 2) := by decide +kernel
theorem dL_why_59 : decode cL_why 59 = .ok (.invokestatic 120, 3) := by decide +kernel
theorem dL_why_62 : decode cL_why 62 = .ok (.ifCond .ne 8, 3) := by decide +kernel
theorem dL_why_65 : decode cL_why 65 = .ok (.bipush 116, 2) := by decide +kernel
theorem dL_why_67 : decode cL_why 67 = .ok (.goto 68, 3) := by decide +kernel
theorem dL_why_70 : decode cL_why 70 = .ok (.aload_n 0, 1) := by decide +kernel
theorem dL_why_71 : decode cL_why 71 = .ok (.iload_n 3, 1) := by decide +kernel
theorem dL_why_72 : decode cL_why 72 = .ok (.iload 4, 2) := by decide +kernel
theorem dL_why_74 : decode cL_why 74 = .ok (.invokestatic 123, 3) := by decide +kernel
theorem dL_why_77 : decode cL_why 77 = .ok (.ifCond .eq 8, 3) := by decide +kernel
theorem dL_why_80 : decode cL_why 80 = .ok (.bipush 114, 2) := by decide +kernel
theorem dL_why_82 : decode cL_why 82 = .ok (.goto 53, 3) := by decide +kernel
theorem dL_why_85 : decode cL_why 85 = .ok (.aload_n 0, 1) := by decide +kernel
theorem dL_why_86 : decode cL_why 86 = .ok (.iload 6, 2) := by decide +kernel
theorem dL_why_88 : decode cL_why 88 = .ok (.bipush 6, 2) := by decide +kernel
theorem dL_why_90 : decode cL_why 90 = .ok (.iadd, 1) := by decide +kernel
theorem dL_why_91 : decode cL_why 91 = .ok (.iaload, 1) := by decide +kernel
theorem dL_why_92 : decode cL_why 92 = .ok (.ifCond .ne 8, 3) := by decide +kernel
theorem dL_why_95 : decode cL_why 95 = .ok (.bipush 97, 2) := by decide +kernel
theorem dL_why_97 : decode cL_why 97 = .ok (.goto 38, 3) := by decide +kernel
theorem dL_why_100 : decode cL_why 100 = .ok (.aload_n 0, 1) := by decide +kernel
theorem dL_why_101 : decode cL_why 101 = .ok (.iload 6, 2) := by decide +kernel
theorem dL_why_103 : decode cL_why 103 = .ok (.bipush 7, 2) := by decide +kernel
theorem dL_why_105 : decode cL_why 105 = .ok (.iadd, 1) := by decide +kernel
theorem dL_why_106 : decode cL_why 106 = .ok (.iaload, 1) := by decide +kernel
theorem dL_why_107 : decode cL_why 107 = .ok (.iload_n 2, 1) := by decide +kernel
theorem dL_why_108 : decode cL_why 108 = .ok (.iconst 1, 1) := by decide +kernel
theorem dL_why_109 : decode cL_why 109 = .ok (.isub, 1) := by decide +kernel
theorem dL_why_110 : decode cL_why 110 = .ok (.if_icmp .ge 8, 3) := by decide +kernel
theorem dL_why_113 : decode cL_why 113 = .ok (.bipush 108, 2) := by decide +kernel
theorem dL_why_115 : decode cL_why 115 = .ok (.goto 20, 3) := by decide +kernel
theorem dL_why_118 : decode cL_why 118 = .ok (.aload_n 0, 1) := by decide +kernel
theorem dL_why_119 : decode cL_why 119 = .ok (.aload_n 1, 1) := by decide +kernel
theorem dL_why_120 : decode cL_why 120 = .ok (.iload_n 2, 1) := by decide +kernel
theorem dL_why_121 : decode cL_why 121 = .ok (.iload_n 3, 1) := by decide +kernel
theorem dL_why_122 : decode cL_why 122 = .ok (.invokestatic 126, 3) := by decide +kernel
theorem dL_why_125 : decode cL_why 125 = .ok (.ifCond .eq 8, 3) := by decide +kernel
theorem dL_why_128 : decode cL_why 128 = .ok (.bipush 111, 2) := by decide +kernel
theorem dL_why_130 : decode cL_why 130 = .ok (.goto 5, 3) := by decide +kernel
theorem dL_why_133 : decode cL_why 133 = .ok (.bipush 110, 2) := by decide +kernel
theorem dL_why_135 : decode cL_why 135 = .ok (.ireturn, 1) := by decide +kernel
theorem dL_chains_0 : decode cL_chains 0 = .ok (.aload_n 1, 1) := by decide +kernel
theorem dL_chains_1 : decode cL_chains 1 = .ok (.iload_n 2, 1) := by decide +kernel
theorem dL_chains_2 : decode cL_chains 2 = .ok (.iconst 1, 1) := by decide +kernel
theorem dL_chains_3 : decode cL_chains 3 = .ok (.isub, 1) := by decide +kernel
theorem dL_chains_4 : decode cL_chains 4 = .ok (.iaload, 1) := by decide +kernel
theorem dL_chains_5 : decode cL_chains 5 = .ok (.istore 5, 2) := by decide +kernel
theorem dL_chains_7 : decode cL_chains 7 = .ok (.aload_n 0, 1) := by decide +kernel
theorem dL_chains_8 : decode cL_chains 8 = .ok (.bipush 23, 2) := by decide +kernel
theorem dL_chains_10 : decode cL_chains 10 = .ok (.bipush 14, 2) := by decide +kernel
theorem dL_chains_12 : decode cL_chains 12 = .ok (.iload 5, 2) := by decide +kernel
theorem dL_chains_14 : decode cL_chains 14 = .ok (.imul, 1) := by decide +kernel
theorem dL_chains_15 : decode cL_chains 15 = .ok (.iadd, 1) := by decide +kernel
theorem dL_chains_16 : decode cL_chains 16 = .ok (.iaload, 1) := by decide +kernel
theorem dL_chains_17 : decode cL_chains 17 = .ok (.iconst 1, 1) := by decide +kernel
theorem dL_chains_18 : decode cL_chains 18 = .ok (.if_icmp .ne 71, 3) := by decide +kernel
theorem dL_chains_21 : decode cL_chains 21 = .ok (.aload_n 0, 1) := by decide +kernel
theorem dL_chains_22 : decode cL_chains 22 = .ok (.bipush 22, 2) := by decide +kernel
theorem dL_chains_24 : decode cL_chains 24 = .ok (.bipush 14, 2) := by decide +kernel
theorem dL_chains_26 : decode cL_chains 26 = .ok (.iload 5, 2) := by decide +kernel
theorem dL_chains_28 : decode cL_chains 28 = .ok (.imul, 1) := by decide +kernel
theorem dL_chains_29 : decode cL_chains 29 = .ok (.iadd, 1) := by decide +kernel
theorem dL_chains_30 : decode cL_chains 30 = .ok (.iaload, 1) := by decide +kernel
theorem dL_chains_31 : decode cL_chains 31 = .ok (.iconst 1, 1) := by decide +kernel
theorem dL_chains_32 : decode cL_chains 32 = .ok (.if_icmp .ne 57, 3) := by decide +kernel
theorem dL_chains_35 : decode cL_chains 35 = .ok (.aload 4, 2) := by decide +kernel
theorem dL_chains_37 : decode cL_chains 37 = .ok (.iconst 0, 1) := by decide +kernel
theorem dL_chains_38 : decode cL_chains 38 = .ok (.dup2, 1) := by decide +kernel
theorem dL_chains_39 : decode cL_chains 39 = .ok (.iaload, 1) := by decide +kernel
theorem dL_chains_40 : decode cL_chains 40 = .ok (.iconst 1, 1) := by decide +kernel
theorem dL_chains_41 : decode cL_chains 41 = .ok (.iadd, 1) := by decide +kernel
theorem dL_chains_42 : decode cL_chains 42 = .ok (.iastore, 1) := by decide +kernel
theorem dL_chains_43 : decode cL_chains 43 = .ok (.aload 4, 2) := by decide +kernel
theorem dL_chains_45 : decode cL_chains 45 = .ok (.iconst 1, 1) := by decide +kernel
theorem dL_chains_46 : decode cL_chains 46 = .ok (.iaload, 1) := by decide +kernel
theorem dL_chains_47 : decode cL_chains 47 = .ok (.ifCond .eq 11, 3) := by decide +kernel
theorem dL_chains_50 : decode cL_chains 50 = .ok (.iload_n 2, 1) := by decide +kernel
theorem dL_chains_51 : decode cL_chains 51 = .ok (.aload 4, 2) := by decide +kernel
theorem dL_chains_53 : decode cL_chains 53 = .ok (.iconst 1, 1) := by decide +kernel
theorem dL_chains_54 : decode cL_chains 54 = .ok (.iaload, 1) := by decide +kernel
theorem dL_chains_55 : decode cL_chains 55 = .ok (.if_icmp .ge 34, 3) := by decide +kernel
theorem dL_chains_58 : decode cL_chains 58 = .ok (.aload 4, 2) := by decide +kernel
theorem dL_chains_60 : decode cL_chains 60 = .ok (.iconst 1, 1) := by decide +kernel
theorem dL_chains_61 : decode cL_chains 61 = .ok (.iload_n 2, 1) := by decide +kernel
theorem dL_chains_62 : decode cL_chains 62 = .ok (.iastore, 1) := by decide +kernel
theorem dL_chains_63 : decode cL_chains 63 = .ok (.iconst 0, 1) := by decide +kernel
theorem dL_chains_64 : decode cL_chains 64 = .ok (.istore 6, 2) := by decide +kernel
theorem dL_chains_66 : decode cL_chains 66 = .ok (.iload 6, 2) := by decide +kernel
theorem dL_chains_68 : decode cL_chains 68 = .ok (.iload_n 2, 1) := by decide +kernel
theorem dL_chains_69 : decode cL_chains 69 = .ok (.if_icmp .ge 20, 3) := by decide +kernel
theorem dL_chains_72 : decode cL_chains 72 = .ok (.aload 4, 2) := by decide +kernel
theorem dL_chains_74 : decode cL_chains 74 = .ok (.iconst 2, 1) := by decide +kernel
theorem dL_chains_75 : decode cL_chains 75 = .ok (.iload 6, 2) := by decide +kernel
theorem dL_chains_77 : decode cL_chains 77 = .ok (.iadd, 1) := by decide +kernel
theorem dL_chains_78 : decode cL_chains 78 = .ok (.aload_n 1, 1) := by decide +kernel
theorem dL_chains_79 : decode cL_chains 79 = .ok (.iload 6, 2) := by decide +kernel
theorem dL_chains_81 : decode cL_chains 81 = .ok (.iaload, 1) := by decide +kernel
theorem dL_chains_82 : decode cL_chains 82 = .ok (.iastore, 1) := by decide +kernel
theorem dL_chains_83 : decode cL_chains 83 = .ok (.iinc 6 1, 3) := by decide +kernel
theorem dL_chains_86 : decode cL_chains 86 = .ok (.goto (-20), 3) := by decide +kernel
theorem dL_chains_89 : decode cL_chains 89 = .ok (.iconst 0, 1) := by decide +kernel
theorem dL_chains_90 : decode cL_chains 90 = .ok (.istore 6, 2) := by decide +kernel
theorem dL_chains_92 : decode cL_chains 92 = .ok (.iload 6, 2) := by decide +kernel
theorem dL_chains_94 : decode cL_chains 94 = .ok (.aload_n 0, 1) := by decide +kernel
theorem dL_chains_95 : decode cL_chains 95 = .ok (.iconst 0, 1) := by decide +kernel
theorem dL_chains_96 : decode cL_chains 96 = .ok (.iaload, 1) := by decide +kernel
theorem dL_chains_97 : decode cL_chains 97 = .ok (.if_icmp .ge 50, 3) := by decide +kernel
theorem dL_chains_100 : decode cL_chains 100 = .ok (.aload_n 0, 1) := by decide +kernel
theorem dL_chains_101 : decode cL_chains 101 = .ok (.iload 5, 2) := by decide +kernel
theorem dL_chains_103 : decode cL_chains 103 = .ok (.iload 6, 2) := by decide +kernel
theorem dL_chains_105 : decode cL_chains 105 = .ok (.invokestatic 116, 3) := by decide +kernel
theorem dL_chains_108 : decode cL_chains 108 = .ok (.ifCond .eq 33, 3) := by decide +kernel
theorem dL_chains_111 : decode cL_chains 111 = .ok (.aload_n 0, 1) := by decide +kernel
theorem dL_chains_112 : decode cL_chains 112 = .ok (.aload_n 1, 1) := by decide +kernel
theorem dL_chains_113 : decode cL_chains 113 = .ok (.iload_n 2, 1) := by decide +kernel
theorem dL_chains_114 : decode cL_chains 114 = .ok (.iload 6, 2) := by decide +kernel
theorem dL_chains_116 : decode cL_chains 116 = .ok (.iload_n 3, 1) := by decide +kernel
theorem dL_chains_117 : decode cL_chains 117 = .ok (.invokestatic 130, 3) := by decide +kernel
theorem dL_chains_120 : decode cL_chains 120 = .ok (.bipush 111, 2) := by decide +kernel
theorem dL_chains_122 : decode cL_chains 122 = .ok (.if_icmp .ne 19, 3) := by decide +kernel
theorem dL_chains_125 : decode cL_chains 125 = .ok (.aload_n 1, 1) := by decide +kernel
theorem dL_chains_126 : decode cL_chains 126 = .ok (.iload_n 2, 1) := by decide +kernel
theorem dL_chains_127 : decode cL_chains 127 = .ok (.iload 6, 2) := by decide +kernel
theorem dL_chains_129 : decode cL_chains 129 = .ok (.iastore, 1) := by decide +kernel
theorem dL_chains_130 : decode cL_chains 130 = .ok (.aload_n 0, 1) := by decide +kernel
theorem dL_chains_131 : decode cL_chains 131 = .ok (.aload_n 1, 1) := by decide +kernel
theorem dL_chains_132 : decode cL_chains 132 = .ok (.iload_n 2, 1) := by decide +kernel
theorem dL_chains_133 : decode cL_chains 133 = .ok (.iconst 1, 1) := by decide +kernel
theorem dL_chains_134 : decode cL_chains 134 = .ok (.iadd, 1) := by decide +kernel
theorem dL_chains_135 : decode cL_chains 135 = .ok (.iload_n 3, 1) := by decide +kernel
theorem dL_chains_136 : decode cL_chains 136 = .ok (.aload 4, 2) := by decide +kernel
theorem dL_chains_138 : decode cL_chains 138 = .ok (.invokestatic 134, 3) := by decide +kernel
theorem dL_chains_141 : decode cL_chains 141 = .ok (.iinc 6 1, 3) := by decide +kernel
theorem dL_chains_144 : decode cL_chains 144 = .ok (.goto (-52), 3) := by decide +kernel
theorem dL_chains_147 : decode cL_chains 147 = .ok (.return_, 1) := by decide +kernel
theorem dL_found_0 : decode cL_found 0 = .ok (.bipush 12, 2) := by decide +kernel
theorem dL_found_2 : decode cL_found 2 = .ok (.newarray .int, 2) := by decide +kernel
theorem dL_found_4 : decode cL_found 4 = .ok (.astore_n 3, 1) := by decide +kernel
theorem dL_found_5 : decode cL_found 5 = .ok (.bipush 12, 2) := by decide +kernel
theorem dL_found_7 : decode cL_found 7 = .ok (.newarray .int, 2) := by decide +kernel
theorem dL_found_9 : decode cL_found 9 = .ok (.astore 4, 2) := by decide +kernel
theorem dL_found_11 : decode cL_found 11 = .ok (.aload 4, 2) := by decide +kernel
theorem dL_found_13 : decode cL_found 13 = .ok (.iconst 0, 1) := by decide +kernel
theorem dL_found_14 : decode cL_found 14 = .ok (.iload_n 1, 1) := by decide +kernel
theorem dL_found_15 : decode cL_found 15 = .ok (.iastore, 1) := by decide +kernel
theorem dL_found_16 : decode cL_found 16 = .ok (.aload_n 0, 1) := by decide +kernel
theorem dL_found_17 : decode cL_found 17 = .ok (.iload_n 1, 1) := by decide +kernel
theorem dL_found_18 : decode cL_found 18 = .ok (.iload_n 2, 1) := by decide +kernel
theorem dL_found_19 : decode cL_found 19 = .ok (.invokestatic 120, 3) := by decide +kernel
theorem dL_found_22 : decode cL_found 22 = .ok (.ifCond .eq 21, 3) := by decide +kernel
theorem dL_found_25 : decode cL_found 25 = .ok (.aload_n 0, 1) := by decide +kernel
theorem dL_found_26 : decode cL_found 26 = .ok (.iload_n 1, 1) := by decide +kernel
theorem dL_found_27 : decode cL_found 27 = .ok (.iload_n 2, 1) := by decide +kernel
theorem dL_found_28 : decode cL_found 28 = .ok (.invokestatic 123, 3) := by decide +kernel
theorem dL_found_31 : decode cL_found 31 = .ok (.ifCond .ne 12, 3) := by decide +kernel
theorem dL_found_34 : decode cL_found 34 = .ok (.aload_n 0, 1) := by decide +kernel
theorem dL_found_35 : decode cL_found 35 = .ok (.aload 4, 2) := by decide +kernel
theorem dL_found_37 : decode cL_found 37 = .ok (.iconst 1, 1) := by decide +kernel
theorem dL_found_38 : decode cL_found 38 = .ok (.iload_n 2, 1) := by decide +kernel
theorem dL_found_39 : decode cL_found 39 = .ok (.aload_n 3, 1) := by decide +kernel
theorem dL_found_40 : decode cL_found 40 = .ok (.invokestatic 134, 3) := by decide +kernel
theorem dL_found_43 : decode cL_found 43 = .ok (.aload_n 3, 1) := by decide +kernel
theorem dL_found_44 : decode cL_found 44 = .ok (.areturn, 1) := by decide +kernel
theorem dL_isMade_0 : decode cL_isMade 0 = .ok (.aload_n 2, 1) := by decide +kernel
theorem dL_isMade_1 : decode cL_isMade 1 = .ok (.iload_n 3, 1) := by decide +kernel
theorem dL_isMade_2 : decode cL_isMade 2 = .ok (.iconst 1, 1) := by decide +kernel
theorem dL_isMade_3 : decode cL_isMade 3 = .ok (.iadd, 1) := by decide +kernel
theorem dL_isMade_4 : decode cL_isMade 4 = .ok (.aload_n 1, 1) := by decide +kernel
theorem dL_isMade_5 : decode cL_isMade 5 = .ok (.iconst 0, 1) := by decide +kernel
theorem dL_isMade_6 : decode cL_isMade 6 = .ok (.iaload, 1) := by decide +kernel
theorem dL_isMade_7 : decode cL_isMade 7 = .ok (.invokestatic 101, 3) := by decide +kernel
theorem dL_isMade_10 : decode cL_isMade 10 = .ok (.istore 4, 2) := by decide +kernel
theorem dL_isMade_12 : decode cL_isMade 12 = .ok (.bipush 10, 2) := by decide +kernel
theorem dL_isMade_14 : decode cL_isMade 14 = .ok (.bipush 14, 2) := by decide +kernel
theorem dL_isMade_16 : decode cL_isMade 16 = .ok (.iload 4, 2) := by decide +kernel
theorem dL_isMade_18 : decode cL_isMade 18 = .ok (.imul, 1) := by decide +kernel
theorem dL_isMade_19 : decode cL_isMade 19 = .ok (.iadd, 1) := by decide +kernel
theorem dL_isMade_20 : decode cL_isMade 20 = .ok (.istore 5, 2) := by decide +kernel
theorem dL_isMade_22 : decode cL_isMade 22 = .ok (.aload_n 2, 1) := by decide +kernel
theorem dL_isMade_23 : decode cL_isMade 23 = .ok (.iload_n 3, 1) := by decide +kernel
theorem dL_isMade_24 : decode cL_isMade 24 = .ok (.iconst 2, 1) := by decide +kernel
theorem dL_isMade_25 : decode cL_isMade 25 = .ok (.iadd, 1) := by decide +kernel
theorem dL_isMade_26 : decode cL_isMade 26 = .ok (.aload_n 1, 1) := by decide +kernel
theorem dL_isMade_27 : decode cL_isMade 27 = .ok (.iconst 0, 1) := by decide +kernel
theorem dL_isMade_28 : decode cL_isMade 28 = .ok (.iaload, 1) := by decide +kernel
theorem dL_isMade_29 : decode cL_isMade 29 = .ok (.invokestatic 101, 3) := by decide +kernel
theorem dL_isMade_32 : decode cL_isMade 32 = .ok (.istore 6, 2) := by decide +kernel
theorem dL_isMade_34 : decode cL_isMade 34 = .ok (.bipush 8, 2) := by decide +kernel
theorem dL_isMade_36 : decode cL_isMade 36 = .ok (.aload_n 2, 1) := by decide +kernel
theorem dL_isMade_37 : decode cL_isMade 37 = .ok (.iload_n 3, 1) := by decide +kernel
theorem dL_isMade_38 : decode cL_isMade 38 = .ok (.iconst 3, 1) := by decide +kernel
theorem dL_isMade_39 : decode cL_isMade 39 = .ok (.iadd, 1) := by decide +kernel
theorem dL_isMade_40 : decode cL_isMade 40 = .ok (.bipush 40, 2) := by decide +kernel
theorem dL_isMade_42 : decode cL_isMade 42 = .ok (.invokestatic 101, 3) := by decide +kernel
theorem dL_isMade_45 : decode cL_isMade 45 = .ok (.iadd, 1) := by decide +kernel
theorem dL_isMade_46 : decode cL_isMade 46 = .ok (.istore 7, 2) := by decide +kernel
theorem dL_isMade_48 : decode cL_isMade 48 = .ok (.aload_n 2, 1) := by decide +kernel
theorem dL_isMade_49 : decode cL_isMade 49 = .ok (.iload_n 3, 1) := by decide +kernel
theorem dL_isMade_50 : decode cL_isMade 50 = .ok (.iconst 4, 1) := by decide +kernel
theorem dL_isMade_51 : decode cL_isMade 51 = .ok (.iadd, 1) := by decide +kernel
theorem dL_isMade_52 : decode cL_isMade 52 = .ok (.iconst 4, 1) := by decide +kernel
theorem dL_isMade_53 : decode cL_isMade 53 = .ok (.invokestatic 101, 3) := by decide +kernel
theorem dL_isMade_56 : decode cL_isMade 56 = .ok (.istore 8, 2) := by decide +kernel
theorem dL_isMade_58 : decode cL_isMade 58 = .ok (.aload_n 2, 1) := by decide +kernel
theorem dL_isMade_59 : decode cL_isMade 59 = .ok (.iload_n 3, 1) := by decide +kernel
theorem dL_isMade_60 : decode cL_isMade 60 = .ok (.iconst 5, 1) := by decide +kernel
theorem dL_isMade_61 : decode cL_isMade 61 = .ok (.iadd, 1) := by decide +kernel
theorem dL_isMade_62 : decode cL_isMade 62 = .ok (.aload_n 2, 1) := by decide +kernel
theorem dL_isMade_63 : decode cL_isMade 63 = .ok (.iload_n 3, 1) := by decide +kernel
theorem dL_isMade_64 : decode cL_isMade 64 = .ok (.bipush 9, 2) := by decide +kernel
theorem dL_isMade_66 : decode cL_isMade 66 = .ok (.iadd, 1) := by decide +kernel
theorem dL_isMade_67 : decode cL_isMade 67 = .ok (.iconst 3, 1) := by decide +kernel
theorem dL_isMade_68 : decode cL_isMade 68 = .ok (.invokestatic 101, 3) := by decide +kernel
theorem dL_isMade_71 : decode cL_isMade 71 = .ok (.ifCond .ne 7, 3) := by decide +kernel
theorem dL_isMade_74 : decode cL_isMade 74 = .ok (.iconst 0, 1) := by decide +kernel
theorem dL_isMade_75 : decode cL_isMade 75 = .ok (.goto 7, 3) := by decide +kernel
theorem dL_isMade_78 : decode cL_isMade 78 = .ok (.aload_n 1, 1) := by decide +kernel
theorem dL_isMade_79 : decode cL_isMade 79 = .ok (.iload 5, 2) := by decide +kernel
theorem dL_isMade_81 : decode cL_isMade 81 = .ok (.iaload, 1) := by decide +kernel
theorem dL_isMade_82 : decode cL_isMade 82 = .ok (.invokestatic 138, 3) := by decide +kernel
theorem dL_isMade_85 : decode cL_isMade 85 = .ok (.istore 9, 2) := by decide +kernel
theorem dL_isMade_87 : decode cL_isMade 87 = .ok (.aload_n 1, 1) := by decide +kernel
theorem dL_isMade_88 : decode cL_isMade 88 = .ok (.iload 5, 2) := by decide +kernel
theorem dL_isMade_90 : decode cL_isMade 90 = .ok (.bipush 6, 2) := by decide +kernel
theorem dL_isMade_92 : decode cL_isMade 92 = .ok (.iadd, 1) := by decide +kernel
theorem dL_isMade_93 : decode cL_isMade 93 = .ok (.iaload, 1) := by decide +kernel
theorem dL_isMade_94 : decode cL_isMade 94 = .ok (.iconst 1, 1) := by decide +kernel
theorem dL_isMade_95 : decode cL_isMade 95 = .ok (.if_icmp .ne 15, 3) := by decide +kernel
theorem dL_isMade_98 : decode cL_isMade 98 = .ok (.aload_n 1, 1) := by decide +kernel
theorem dL_isMade_99 : decode cL_isMade 99 = .ok (.iconst 0, 1) := by decide +kernel
theorem dL_isMade_100 : decode cL_isMade 100 = .ok (.iaload, 1) := by decide +kernel
theorem dL_isMade_101 : decode cL_isMade 101 = .ok (.bipush 40, 2) := by decide +kernel
theorem dL_isMade_103 : decode cL_isMade 103 = .ok (.if_icmp .ge 7, 3) := by decide +kernel
theorem dL_isMade_106 : decode cL_isMade 106 = .ok (.iconst 1, 1) := by decide +kernel
theorem dL_isMade_107 : decode cL_isMade 107 = .ok (.goto 4, 3) := by decide +kernel
theorem dL_isMade_110 : decode cL_isMade 110 = .ok (.iconst 0, 1) := by decide +kernel
theorem dL_isMade_111 : decode cL_isMade 111 = .ok (.istore 10, 2) := by decide +kernel
theorem dL_isMade_113 : decode cL_isMade 113 = .ok (.aload_n 2, 1) := by decide +kernel
theorem dL_isMade_114 : decode cL_isMade 114 = .ok (.iload_n 3, 1) := by decide +kernel
theorem dL_isMade_115 : decode cL_isMade 115 = .ok (.bipush 8, 2) := by decide +kernel
theorem dL_isMade_117 : decode cL_isMade 117 = .ok (.invokestatic 101, 3) := by decide +kernel
theorem dL_isMade_120 : decode cL_isMade 120 = .ok (.tableswitch 481 0 6 #[44, 86, 86, 86, 129, 169, 291], 44) := by decide +kernel
theorem dL_isMade_164 : decode cL_isMade 164 = .ok (.aload_n 0, 1) := by decide +kernel
theorem dL_isMade_165 : decode cL_isMade 165 = .ok (.iload 9, 2) := by decide +kernel
theorem dL_isMade_167 : decode cL_isMade 167 = .ok (.iload 7, 2) := by decide +kernel
theorem dL_isMade_169 : decode cL_isMade 169 = .ok (.iload 8, 2) := by decide +kernel
theorem dL_isMade_171 : decode cL_isMade 171 = .ok (.invokestatic 141, 3) := by decide +kernel
theorem dL_isMade_174 : decode cL_isMade 174 = .ok (.aload_n 1, 1) := by decide +kernel
theorem dL_isMade_175 : decode cL_isMade 175 = .ok (.iconst 0, 1) := by decide +kernel
theorem dL_isMade_176 : decode cL_isMade 176 = .ok (.iaload, 1) := by decide +kernel
theorem dL_isMade_177 : decode cL_isMade 177 = .ok (.bipush 40, 2) := by decide +kernel
theorem dL_isMade_179 : decode cL_isMade 179 = .ok (.if_icmp .ne 8, 3) := by decide +kernel
theorem dL_isMade_182 : decode cL_isMade 182 = .ok (.ldc 33, 2) := by decide +kernel
theorem dL_isMade_184 : decode cL_isMade 184 = .ok (.goto 13, 3) := by decide +kernel
theorem dL_isMade_187 : decode cL_isMade 187 = .ok (.aload_n 1, 1) := by decide +kernel
theorem dL_isMade_188 : decode cL_isMade 188 = .ok (.iload 9, 2) := by decide +kernel
theorem dL_isMade_190 : decode cL_isMade 190 = .ok (.iload 7, 2) := by decide +kernel
theorem dL_isMade_192 : decode cL_isMade 192 = .ok (.iload 8, 2) := by decide +kernel
theorem dL_isMade_194 : decode cL_isMade 194 = .ok (.invokestatic 144, 3) := by decide +kernel
theorem dL_isMade_197 : decode cL_isMade 197 = .ok (.if_icmp .ne 7, 3) := by decide +kernel
theorem dL_isMade_200 : decode cL_isMade 200 = .ok (.iconst 1, 1) := by decide +kernel
theorem dL_isMade_201 : decode cL_isMade 201 = .ok (.goto 4, 3) := by decide +kernel
theorem dL_isMade_204 : decode cL_isMade 204 = .ok (.iconst 0, 1) := by decide +kernel
theorem dL_isMade_205 : decode cL_isMade 205 = .ok (.ireturn, 1) := by decide +kernel
theorem dL_isMade_206 : decode cL_isMade 206 = .ok (.aload_n 0, 1) := by decide +kernel
theorem dL_isMade_207 : decode cL_isMade 207 = .ok (.iload 4, 2) := by decide +kernel
theorem dL_isMade_209 : decode cL_isMade 209 = .ok (.iload 9, 2) := by decide +kernel
theorem dL_isMade_211 : decode cL_isMade 211 = .ok (.iload 7, 2) := by decide +kernel
theorem dL_isMade_213 : decode cL_isMade 213 = .ok (.iload 8, 2) := by decide +kernel
theorem dL_isMade_215 : decode cL_isMade 215 = .ok (.invokestatic 148, 3) := by decide +kernel
theorem dL_isMade_218 : decode cL_isMade 218 = .ok (.iload 10, 2) := by decide +kernel
theorem dL_isMade_220 : decode cL_isMade 220 = .ok (.ifCond .eq 18, 3) := by decide +kernel
theorem dL_isMade_223 : decode cL_isMade 223 = .ok (.aload_n 1, 1) := by decide +kernel
theorem dL_isMade_224 : decode cL_isMade 224 = .ok (.iload 5, 2) := by decide +kernel
theorem dL_isMade_226 : decode cL_isMade 226 = .ok (.iload 9, 2) := by decide +kernel
theorem dL_isMade_228 : decode cL_isMade 228 = .ok (.iload 7, 2) := by decide +kernel
theorem dL_isMade_230 : decode cL_isMade 230 = .ok (.iload 8, 2) := by decide +kernel
theorem dL_isMade_232 : decode cL_isMade 232 = .ok (.invokestatic 151, 3) := by decide +kernel
theorem dL_isMade_235 : decode cL_isMade 235 = .ok (.goto 5, 3) := by decide +kernel
theorem dL_isMade_238 : decode cL_isMade 238 = .ok (.ldc 39, 2) := by decide +kernel
theorem dL_isMade_240 : decode cL_isMade 240 = .ok (.if_icmp .ne 7, 3) := by decide +kernel
theorem dL_isMade_243 : decode cL_isMade 243 = .ok (.iconst 1, 1) := by decide +kernel
theorem dL_isMade_244 : decode cL_isMade 244 = .ok (.goto 4, 3) := by decide +kernel
theorem dL_isMade_247 : decode cL_isMade 247 = .ok (.iconst 0, 1) := by decide +kernel
theorem dL_isMade_248 : decode cL_isMade 248 = .ok (.ireturn, 1) := by decide +kernel
theorem dL_isMade_249 : decode cL_isMade 249 = .ok (.aload_n 0, 1) := by decide +kernel
theorem dL_isMade_250 : decode cL_isMade 250 = .ok (.iload 4, 2) := by decide +kernel
theorem dL_isMade_252 : decode cL_isMade 252 = .ok (.iload 9, 2) := by decide +kernel
theorem dL_isMade_254 : decode cL_isMade 254 = .ok (.iload 7, 2) := by decide +kernel
theorem dL_isMade_256 : decode cL_isMade 256 = .ok (.invokestatic 155, 3) := by decide +kernel
theorem dL_isMade_259 : decode cL_isMade 259 = .ok (.iload 10, 2) := by decide +kernel
theorem dL_isMade_261 : decode cL_isMade 261 = .ok (.ifCond .eq 17, 3) := by decide +kernel
theorem dL_isMade_264 : decode cL_isMade 264 = .ok (.aload_n 1, 1) := by decide +kernel
theorem dL_isMade_265 : decode cL_isMade 265 = .ok (.iload 5, 2) := by decide +kernel
theorem dL_isMade_267 : decode cL_isMade 267 = .ok (.iload 9, 2) := by decide +kernel
theorem dL_isMade_269 : decode cL_isMade 269 = .ok (.iload 7, 2) := by decide +kernel
theorem dL_isMade_271 : decode cL_isMade 271 = .ok (.iconst (-1), 1) := by decide +kernel
theorem dL_isMade_272 : decode cL_isMade 272 = .ok (.invokestatic 151, 3) := by decide +kernel
theorem dL_isMade_275 : decode cL_isMade 275 = .ok (.goto 5, 3) := by decide +kernel
theorem dL_isMade_278 : decode cL_isMade 278 = .ok (.ldc 39, 2) := by decide +kernel
theorem dL_isMade_280 : decode cL_isMade 280 = .ok (.if_icmp .ne 7, 3) := by decide +kernel
theorem dL_isMade_283 : decode cL_isMade 283 = .ok (.iconst 1, 1) := by decide +kernel
theorem dL_isMade_284 : decode cL_isMade 284 = .ok (.goto 4, 3) := by decide +kernel
theorem dL_isMade_287 : decode cL_isMade 287 = .ok (.iconst 0, 1) := by decide +kernel
theorem dL_isMade_288 : decode cL_isMade 288 = .ok (.ireturn, 1) := by decide +kernel
theorem dL_isMade_289 : decode cL_isMade 289 = .ok (.bipush 10, 2) := by decide +kernel
theorem dL_isMade_291 : decode cL_isMade 291 = .ok (.bipush 14, 2) := by decide +kernel
theorem dL_isMade_293 : decode cL_isMade 293 = .ok (.iload 6, 2) := by decide +kernel
theorem dL_isMade_295 : decode cL_isMade 295 = .ok (.imul, 1) := by decide +kernel
theorem dL_isMade_296 : decode cL_isMade 296 = .ok (.iadd, 1) := by decide +kernel
theorem dL_isMade_297 : decode cL_isMade 297 = .ok (.istore 11, 2) := by decide +kernel
theorem dL_isMade_299 : decode cL_isMade 299 = .ok (.iload 10, 2) := by decide +kernel
theorem dL_isMade_301 : decode cL_isMade 301 = .ok (.ifCond .eq 48, 3) := by decide +kernel
theorem dL_isMade_304 : decode cL_isMade 304 = .ok (.aload_n 1, 1) := by decide +kernel
theorem dL_isMade_305 : decode cL_isMade 305 = .ok (.iload 11, 2) := by decide +kernel
theorem dL_isMade_307 : decode cL_isMade 307 = .ok (.bipush 6, 2) := by decide +kernel
theorem dL_isMade_309 : decode cL_isMade 309 = .ok (.iadd, 1) := by decide +kernel
theorem dL_isMade_310 : decode cL_isMade 310 = .ok (.iaload, 1) := by decide +kernel
theorem dL_isMade_311 : decode cL_isMade 311 = .ok (.iconst 1, 1) := by decide +kernel
